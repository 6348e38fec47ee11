/-! ERRORS: what is reckoned line by line, of both -/
theorem zl_ip3 {σ τ ρ κ : Type} {B : σ → (σ → Option ρ) → Option ρ} {D : τ → (τ → Option κ) → Option κ} {P : ρ → κ → Prop} (R : σ → τ → Prop) (hB : ∀ (s : σ) (t : τ) (k1 : σ → Option ρ) (k2 : τ → Option κ) (o1 : ρ) (o2 : κ), R s t → (∀ s t o1 o2, R s t → k1 s = some o1 → k2 t = some o2 → P o1 o2) → (∀ t o, k2 t = some o → ∃ k3, D t k3 = some o) → B s k1 = some o1 → D t k2 = some o2 → P o1 o2) : ∀ (n m : Nat) (s : σ) (t : τ) (o1 : ρ) (o2 : κ), R s t → zl B n s = some o1 → zl D m t = some o2 → P o1 o2 := by
  intro n
  induction n with
  | zero => intro m s t o1 o2 _ h _; exact (zl_0 h).elim
  | succ n ih =>
    intro m s t o1 o2 hR h1 h2
    cases m with
    | zero => exact (zl_0 h2).elim
    | succ m =>
      refine hB s t (zl B n) (zl D m) o1 o2 hR (fun s t o1 o2 hR h1 h2 => ih m s t o1 o2 hR h1 h2) (fun t o h => ?_) (zl_s rfl h1) (zl_s rfl h2)
      cases m with
      | zero => exact (zl_0 h).elim
      | succ m => exact ⟨zl D m, zl_s rfl h⟩
theorem zoL_mul {x y z : Int64} {a b : Int} (e : z = x * y) (ha : x.toInt = a) (hb : y.toInt = b) (h : -9223372036854775808 ≤ a * b ∧ a * b < 9223372036854775808) : z.toInt = a * b := by
  rw [e, Int64.toInt_mul, ha, hb, Int.bmod_def]
  generalize a * b = q at h ⊢
  split <;> omega
theorem zl0 : (0 : Int64).toInt = 0 := by decide +kernel
theorem zl1000 : (1000 : Int64).toInt = 1000 := by decide +kernel
theorem zl999 : (999 : Int64).toInt = 999 := by decide +kernel
/-- a product by 1000, rounded up -/
theorem zceil {V : Int64} (h0 : 0 ≤ V.toInt) (h1 : V.toInt ≤ 9000000000000000000) : (V + 999) / 1000 = -zFd (-V) 1000 ∧ ((V + 999) / 1000).toInt = (V.toInt + 999) / 1000 := by
  have e1 := zoL_add (x := V) (y := 999) (z := V + 999) rfl rfl zl999 (by omega)
  have e2 : ((V + 999) / 1000).toInt = (V.toInt + 999) / 1000 := by
    rw [Int64.toInt_div_of_ne_right _ _ (by decide), e1, zl1000, Int.tdiv_eq_ediv_of_nonneg (by omega)]
  have e3 : (-V).toInt = -V.toInt := by
    have := zoL_sub (x := 0) (y := V) (z := 0 - V) rfl zl0 rfl (by omega)
    rw [Int64.zero_sub] at this
    omega
  have e4 : (-V / 1000).toInt = -(V.toInt / 1000) := by
    rw [Int64.toInt_div_of_ne_right _ _ (by decide), e3, zl1000, Int.neg_tdiv, Int.tdiv_eq_ediv_of_nonneg h0]
  have e5 := zoL_mul (x := -V / 1000) (y := 1000) (z := -V / 1000 * 1000) rfl e4 zl1000 (by omega)
  have e6 := zoL_sub (x := -V) (y := -V / 1000 * 1000) (z := -V - -V / 1000 * 1000) rfl e3 e5 (by omega)
  refine ⟨?_, e2⟩
  apply Int64.toInt_inj.mp
  rw [e2]
  have neg : ∀ z : Int64, ∀ n : Int, z.toInt = n → -9223372036854775807 ≤ n → n ≤ 9223372036854775807 → (-z).toInt = -n := by
    intro z n hz hn hn2
    have := zoL_sub (x := 0) (y := z) (z := 0 - z) rfl zl0 hz (by omega)
    rw [Int64.zero_sub] at this
    omega
  unfold zFd
  by_cases c : -V - -V / 1000 * 1000 = 0
  · rw [if_pos c, neg _ _ e4 (by omega) (by omega)]
    have c' : (-V - -V / 1000 * 1000).toInt = 0 := by rw [c]; exact zl0
    omega
  · rw [if_neg c]
    have c' : ¬ (-V - -V / 1000 * 1000).toInt = 0 := fun q => c (Int64.toInt_inj.mp (by rw [q, zl0]))
    by_cases d : 0 ≤ -V
    · have d' := Int64.le_iff_toInt_le.mp d
      rw [zl0, e3] at d'
      omega
    · rw [if_neg d]
      have e7 := zoL_sub (x := -V / 1000) (y := 1) (z := -V / 1000 - 1) rfl e4 (show (1 : Int64).toInt = 1 by decide +kernel) (by omega)
      rw [neg _ _ e7 (by omega) (by omega)]
      omega
theorem zmulb {x y : Int64} {A B : Int} (hx : 0 ≤ x.toInt ∧ x.toInt ≤ A) (hy : 0 ≤ y.toInt ∧ y.toInt ≤ B) (hAB : A * B < 9223372036854775808) : 0 ≤ (x * y).toInt ∧ (x * y).toInt ≤ A * B := by
  have h1 : x.toInt * y.toInt ≤ A * B := Int.mul_le_mul hx.2 hy.2 hy.1 (by omega)
  have h2 : 0 ≤ x.toInt * y.toInt := Int.mul_nonneg hx.1 hy.1
  have h3 := zoL_mul (x := x) (y := y) (z := x * y) rfl rfl rfl ⟨by omega, by omega⟩
  omega
/-- the choice of the class by groups, what the reference tries by NUMBERS -/
noncomputable def zCh (cN cF : Int32) (gof ch mTr : Nat → Int32) : Prop := ∀ i : Int32, 0 ≤ i → i < cN → (0 ≤ gof i.toNatClampNeg ∧ gof i.toNatClampNeg < 14) ∧ ch (gof i.toNatClampNeg).toNatClampNeg = mTr i.toNatClampNeg ∧ 0 ≤ mTr i.toNatClampNeg ∧ mTr i.toNatClampNeg < cF
theorem zFmtOfP {i nP cN cF : Int32} {gof ch mTr : Nat → Int32} (hN : cN ≤ 14) (hP : nP ≤ cN) (C : zCh nP cF gof ch mTr) (hi : 0 ≤ i ∧ i < nP) : fn_X9_formatOf i cN gof ch = some (mTr i.toNatClampNeg) := by
  obtain ⟨⟨c1, c2⟩, c3, -⟩ := C i hi.1 hi.2
  unfold fn_X9_formatOf
  simp only [zj]
  rw [if_neg (by grind), if_neg (by grind), zg_in 14 (by decide +kernel) ⟨hi.1, by grind⟩, if_neg (by grind), if_neg (by grind), zg_in 14 (by decide +kernel) ⟨c1, c2⟩, c3]
theorem zFmtOf {i cN cF : Int32} {gof ch mTr : Nat → Int32} (hN : cN ≤ 14) (C : zCh cN cF gof ch mTr) (hi : 0 ≤ i ∧ i < cN) : fn_X9_formatOf i cN gof ch = some (mTr i.toNatClampNeg) := zFmtOfP hN (Int32.le_refl _) C hi
theorem zStpOf {f cF : Int32} {stp : Nat → Int32} (hF : cF ≤ 4) (hf : 0 ≤ f ∧ f < cF) : fn_X9_stepOf f cF stp = some (stp f.toNatClampNeg) := by
  unfold fn_X9_stepOf
  rw [if_neg (by grind), if_neg (by grind), zg_in 4 (by decide +kernel) ⟨hf.1, by grind⟩]
theorem zMstOf {f cF : Int32} {stp : Nat → Int32} (hF : cF ≤ 4) (hf : 0 ≤ f ∧ f < cF) : fn_X9_mostOf f cF stp = some (stp f.toNatClampNeg) := by
  unfold fn_X9_mostOf
  rw [if_neg (by grind), if_neg (by grind), zg_in 4 (by decide +kernel) ⟨hf.1, by grind⟩]
theorem zDivi {s a : Int64} (hs : ¬ s = 0) : fn_X11_divides s a = some (if a - a / s * s = 0 then 1 else 0) := by
  unfold fn_X11_divides zd
  rw [if_neg (fun q => hs ((lg_cmp_eq _ _).mp q)), if_neg hs]
  by_cases c : a - a / s * s = 0
  · rw [if_pos ((lg_cmp_eq _ _).mpr c), if_pos c]
  · rw [if_neg (fun q => c ((lg_cmp_eq _ _).mp q)), if_neg c]
theorem zhf64 (s : Int32) : (s / 2).toInt64 = s.toInt64 / 2 := by
  rw [Int32.toInt64_div_of_ne_right _ _ (by decide)]
  rfl
/-- the ERROR of a WHAT behind its cast; S: the step, own: the step of the NUMBER that it is -/
noncomputable def zCe (S : Int64) (m a : Int32) (own e : Int64) : Int64 := if m = (-1) then (if a.toInt64 - a.toInt64 / S * S = 0 then 0 else S / 2) else (if own - own / S * S = 0 then e else e + S / 2)
/-- the amount of a WHAT -/
noncomputable def zAw (m a : Int32) (lo hi : Nat → Int64) : Int64 := zMx (zAb (zVal m a lo)) (zAb (zVal m a hi))
noncomputable def zEr (p : Int32) (S a b x y : Int64) : Int64 := if p = 0 then S / 2 else if p = 1 ∨ p = 2 then a + b else if p = 3 then -zFd (-(x * b + y * a + a * b)) 1000 + S / 2 + 1 else zMx a b
theorem zst0 {s : Int32} (h : 1 ≤ s) : ¬ s.toInt64 = 0 := fun q => by have := (z64_0 s).mp q; grind
theorem zCeJ {i nP cN cF p4 : Int32} {gof ch mTr stp made amt : Nat → Int32} {er : Nat → Int64} (hN : cN ≤ 14) (hP : nP ≤ cN) (hF : cF ≤ 4) (C : zCh nP cF gof ch mTr) (hi0 : 0 ≤ i ∧ i < nP) (hs : ∀ f : Int32, 0 ≤ f → f < cF → 1 ≤ stp f.toNatClampNeg) (hp : p4 = 0 ∨ p4 = 1) (hm : (-1) ≤ made (2 * i + p4).toNatClampNeg ∧ made (2 * i + p4).toNatClampNeg < i) : fn_X7_errorBehindCast i p4 cF cN gof ch stp made er amt = some (zCe (stp (mTr i.toNatClampNeg).toNatClampNeg).toInt64 (made (2 * i + p4).toNatClampNeg) (amt (2 * i + p4).toNatClampNeg) (stp (mTr (made (2 * i + p4).toNatClampNeg).toNatClampNeg).toNatClampNeg).toInt64 (er (made (2 * i + p4).toNatClampNeg).toNatClampNeg)) := by
  have hi : 0 ≤ i ∧ i < cN := ⟨hi0.1, by have := hi0.2; grind⟩
  obtain ⟨-, -, c4, c5⟩ := C i hi0.1 hi0.2
  have s0 := zst0 (hs _ c4 c5)
  have em : fn_X4_madeOf i p4 cN made = some (made (2 * i + p4).toNatClampNeg) := by
    rcases hp with rfl | rfl
    · exact zMade0 hN hi
    · exact zMade1 hN hi
  have ea : fn_X4_amountOf i p4 cN amt = some (amt (2 * i + p4).toNatClampNeg).toInt64 := by
    rcases hp with rfl | rfl
    · exact zAmt0 hN hi
    · exact zAmt1 hN hi
  unfold fn_X7_errorBehindCast zCe
  simp only [zj, zFmtOfP hN hP C hi0, zStpOf hF ⟨c4, c5⟩, em, ea, zDivi s0, zb_some, zhf64]
  by_cases c : made (2 * i + p4).toNatClampNeg = (-1)
  · rw [if_pos (by rw [c]; decide), if_pos c]
    by_cases d : (amt (2 * i + p4).toNatClampNeg).toInt64 - (amt (2 * i + p4).toNatClampNeg).toInt64 / (stp (mTr i.toNatClampNeg).toNatClampNeg).toInt64 * (stp (mTr i.toNatClampNeg).toNatClampNeg).toInt64 = 0
    · rw [if_pos d, if_pos d, if_neg (by decide)]
    · rw [if_neg d, if_neg d, if_pos rfl]
  · have m0 : 0 ≤ made (2 * i + p4).toNatClampNeg ∧ made (2 * i + p4).toNatClampNeg < nP := ⟨by grind, by have := hi0.2; grind⟩
    obtain ⟨-, -, d4, d5⟩ := C _ m0.1 m0.2
    rw [if_neg (by grind), if_pos hm.2, if_neg c, zFmtOfP hN hP C m0, zb_some, zStpOf hF ⟨d4, d5⟩, zb_some, zg_in 14 (by decide +kernel) ⟨m0.1, by grind⟩]
    by_cases d : (stp (mTr (made (2 * i + p4).toNatClampNeg).toNatClampNeg).toNatClampNeg).toInt64 - (stp (mTr (made (2 * i + p4).toNatClampNeg).toNatClampNeg).toNatClampNeg).toInt64 / (stp (mTr i.toNatClampNeg).toNatClampNeg).toInt64 * (stp (mTr i.toNatClampNeg).toNatClampNeg).toInt64 = 0
    · rw [if_pos d, if_pos d, if_neg (by decide), Int64.add_zero]
    · rw [if_neg d, if_neg d, if_pos rfl]
theorem zMx_self (a : Int64) : zMx a a = a := by
  unfold zMx
  by_cases c : a < a
  · rw [if_pos c]
  · rw [if_neg c]
theorem zAwJ {i cN p4 : Int32} {made amt : Nat → Int32} {lo hi : Nat → Int64} (hN : cN ≤ 14) (hi' : 0 ≤ i ∧ i < cN) (hp : p4 = 0 ∨ p4 = 1) (hm : (-1) ≤ made (2 * i + p4).toNatClampNeg ∧ made (2 * i + p4).toNatClampNeg < i) : fn_X6_amountOfWhat i p4 cN made amt lo hi = some (zAw (made (2 * i + p4).toNatClampNeg) (amt (2 * i + p4).toNatClampNeg) lo hi) := by
  have em : fn_X4_madeOf i p4 cN made = some (made (2 * i + p4).toNatClampNeg) := by
    rcases hp with rfl | rfl
    · exact zMade0 hN hi'
    · exact zMade1 hN hi'
  have ea : fn_X4_amountOf i p4 cN amt = some (amt (2 * i + p4).toNatClampNeg).toInt64 := by
    rcases hp with rfl | rfl
    · exact zAmt0 hN hi'
    · exact zAmt1 hN hi'
  unfold fn_X6_amountOfWhat zAw zVal
  simp only [em, ea, zb_some]
  by_cases c : made (2 * i + p4).toNatClampNeg = (-1)
  · rw [if_pos (by rw [c]; decide), if_pos c, if_pos c, zMx_self]
    rfl
  · rw [if_neg (by grind), if_pos hm.2, if_neg c, if_neg c, zg_in 14 (by decide +kernel) ⟨by grind, by grind⟩]
    rfl
set_option maxHeartbeats 4000000 in
theorem zErJ {i nP cN cF : Int32} {gof ch mTr stp op made amt : Nat → Int32} {er lo hi : Nat → Int64} (hN : cN ≤ 14) (hP : nP ≤ cN) (hF : cF ≤ 4) (C : zCh nP cF gof ch mTr) (hi0 : 0 ≤ i ∧ i < nP) (hs : ∀ f : Int32, 0 ≤ f → f < cF → 1 ≤ stp f.toNatClampNeg) (hk : zOk i op made)
    (hV : op i.toNatClampNeg = 3 → ∀ a b x y : Int64, a = zCe (stp (mTr i.toNatClampNeg).toNatClampNeg).toInt64 (made (2 * i + 0).toNatClampNeg) (amt (2 * i + 0).toNatClampNeg) (stp (mTr (made (2 * i + 0).toNatClampNeg).toNatClampNeg).toNatClampNeg).toInt64 (er (made (2 * i + 0).toNatClampNeg).toNatClampNeg) → b = zCe (stp (mTr i.toNatClampNeg).toNatClampNeg).toInt64 (made (2 * i + 1).toNatClampNeg) (amt (2 * i + 1).toNatClampNeg) (stp (mTr (made (2 * i + 1).toNatClampNeg).toNatClampNeg).toNatClampNeg).toInt64 (er (made (2 * i + 1).toNatClampNeg).toNatClampNeg) → x = zAw (made (2 * i + 0).toNatClampNeg) (amt (2 * i + 0).toNatClampNeg) lo hi → y = zAw (made (2 * i + 1).toNatClampNeg) (amt (2 * i + 1).toNatClampNeg) lo hi → 0 ≤ (x * b + y * a + a * b).toInt ∧ (x * b + y * a + a * b).toInt ≤ 9000000000000000000) :
    fn_X7_errorOf i cF cN gof ch stp op made er amt lo hi = some (zEr (op i.toNatClampNeg) (stp (mTr i.toNatClampNeg).toNatClampNeg).toInt64 (zCe (stp (mTr i.toNatClampNeg).toNatClampNeg).toInt64 (made (2 * i + 0).toNatClampNeg) (amt (2 * i + 0).toNatClampNeg) (stp (mTr (made (2 * i + 0).toNatClampNeg).toNatClampNeg).toNatClampNeg).toInt64 (er (made (2 * i + 0).toNatClampNeg).toNatClampNeg)) (zCe (stp (mTr i.toNatClampNeg).toNatClampNeg).toInt64 (made (2 * i + 1).toNatClampNeg) (amt (2 * i + 1).toNatClampNeg) (stp (mTr (made (2 * i + 1).toNatClampNeg).toNatClampNeg).toNatClampNeg).toInt64 (er (made (2 * i + 1).toNatClampNeg).toNatClampNeg)) (zAw (made (2 * i + 0).toNatClampNeg) (amt (2 * i + 0).toNatClampNeg) lo hi) (zAw (made (2 * i + 1).toNatClampNeg) (amt (2 * i + 1).toNatClampNeg) lo hi)) := by
  have hi' : 0 ≤ i ∧ i < cN := ⟨hi0.1, by have := hi0.2; grind⟩
  obtain ⟨-, -, c4, c5⟩ := C i hi0.1 hi0.2
  obtain ⟨k1, k2, k3, k4⟩ := hk
  unfold fn_X7_errorOf zEr
  simp only [zFmtOfP hN hP C hi0, zStpOf hF ⟨c4, c5⟩, zCeJ hN hP hF C hi0 hs (Or.inl rfl) k2, zCeJ hN hP hF C hi0 hs (Or.inr rfl) k3, zAwJ hN hi' (Or.inl rfl) k2, zAwJ hN hi' (Or.inr rfl) k3, zb_some, zhf64, zn]
  rw [zg_in 14 (by decide +kernel) ⟨hi'.1, by grind⟩]
  by_cases c0 : op i.toNatClampNeg = 0
  · rw [if_pos c0, if_pos c0]
  · rw [if_neg c0, if_neg c0]
    have hV := fun q => hV q _ _ _ _ rfl rfl rfl rfl
    generalize zCe (stp (mTr i.toNatClampNeg).toNatClampNeg).toInt64 (made (2 * i + 0).toNatClampNeg) (amt (2 * i + 0).toNatClampNeg) (stp (mTr (made (2 * i + 0).toNatClampNeg).toNatClampNeg).toNatClampNeg).toInt64 (er (made (2 * i + 0).toNatClampNeg).toNatClampNeg) = a at hV ⊢
    generalize zCe (stp (mTr i.toNatClampNeg).toNatClampNeg).toInt64 (made (2 * i + 1).toNatClampNeg) (amt (2 * i + 1).toNatClampNeg) (stp (mTr (made (2 * i + 1).toNatClampNeg).toNatClampNeg).toNatClampNeg).toInt64 (er (made (2 * i + 1).toNatClampNeg).toNatClampNeg) = b at hV ⊢
    by_cases c4 : op i.toNatClampNeg = 4
    · rw [if_pos c4, if_neg (show ¬ (op i.toNatClampNeg = 1 ∨ op i.toNatClampNeg = 2) by rw [c4]; decide), if_neg (show ¬ op i.toNatClampNeg = 3 by rw [c4]; decide)]
      rfl
    · rw [if_neg c4]
      by_cases c5 : op i.toNatClampNeg = 5
      · rw [if_pos c5, if_neg (show ¬ (op i.toNatClampNeg = 1 ∨ op i.toNatClampNeg = 2) by rw [c5]; decide), if_neg (show ¬ op i.toNatClampNeg = 3 by rw [c5]; decide)]
        rfl
      · rw [if_neg c5]
        by_cases c3 : op i.toNatClampNeg = 3
        · rw [if_pos c3, if_neg (show ¬ (op i.toNatClampNeg = 1 ∨ op i.toNatClampNeg = 2) by rw [c3]; decide), if_pos c3, (zceil (hV c3).1 (hV c3).2).1]
        · rw [if_neg c3, if_pos (show op i.toNatClampNeg = 1 ∨ op i.toNatClampNeg = 2 by grind)]
/-! the reference's -/
theorem zCeM {k s : Int32} {mTr mS m1 m2 : Nat → Int32} {er mA mB : Nat → Int64} {x : Int64} (h : fn_X12_castError k s mTr mS m1 m2 er mA mB = some x) : x = if s = 0 then (if m1 k.toNatClampNeg = (-1) then (if mA k.toNatClampNeg - mA k.toNatClampNeg / (mS (mTr k.toNatClampNeg).toNatClampNeg).toInt64 * (mS (mTr k.toNatClampNeg).toNatClampNeg).toInt64 = 0 then 0 else (mS (mTr k.toNatClampNeg).toNatClampNeg).toInt64 / 2) else (if (mS (mTr (m1 k.toNatClampNeg).toNatClampNeg).toNatClampNeg).toInt64 - (mS (mTr (m1 k.toNatClampNeg).toNatClampNeg).toNatClampNeg).toInt64 / (mS (mTr k.toNatClampNeg).toNatClampNeg).toInt64 * (mS (mTr k.toNatClampNeg).toNatClampNeg).toInt64 = 0 then er (m1 k.toNatClampNeg).toNatClampNeg else er (m1 k.toNatClampNeg).toNatClampNeg + (mS (mTr k.toNatClampNeg).toNatClampNeg).toInt64 / 2)) else (if m2 k.toNatClampNeg = (-1) then (if mB k.toNatClampNeg - mB k.toNatClampNeg / (mS (mTr k.toNatClampNeg).toNatClampNeg).toInt64 * (mS (mTr k.toNatClampNeg).toNatClampNeg).toInt64 = 0 then 0 else (mS (mTr k.toNatClampNeg).toNatClampNeg).toInt64 / 2) else (if (mS (mTr (m2 k.toNatClampNeg).toNatClampNeg).toNatClampNeg).toInt64 - (mS (mTr (m2 k.toNatClampNeg).toNatClampNeg).toNatClampNeg).toInt64 / (mS (mTr k.toNatClampNeg).toNatClampNeg).toInt64 * (mS (mTr k.toNatClampNeg).toNatClampNeg).toInt64 = 0 then er (m2 k.toNatClampNeg).toNatClampNeg else er (m2 k.toNatClampNeg).toNatClampNeg + (mS (mTr k.toNatClampNeg).toNatClampNeg).toInt64 / 2)) := by
  unfold fn_X12_castError at h
  simp only [zj, zn] at h
  obtain ⟨-, h⟩ := zg_s h
  obtain ⟨-, h⟩ := zg_s h
  by_cases c : s = 0
  · rw [if_pos c] at h ⊢
    obtain ⟨-, h⟩ := zg_s h
    by_cases d : m1 k.toNatClampNeg = (-1)
    · rw [if_pos d] at h ⊢
      rw [if_pos c] at h
      obtain ⟨-, h⟩ := zg_s h
      obtain ⟨-, h⟩ := zd_s h
      by_cases e : mA k.toNatClampNeg - mA k.toNatClampNeg / (mS (mTr k.toNatClampNeg).toNatClampNeg).toInt64 * (mS (mTr k.toNatClampNeg).toNatClampNeg).toInt64 = 0
      · rw [if_pos ((lg_cmp_eq _ _).mpr e)] at h
        rw [if_pos e]; exact (Option.some.inj h).symm
      · rw [if_neg (fun q => e ((lg_cmp_eq _ _).mp q))] at h
        rw [if_neg e]; exact (Option.some.inj h).symm
    · rw [if_neg d] at h ⊢
      obtain ⟨-, h⟩ := zg_s h
      obtain ⟨-, h⟩ := zg_s h
      obtain ⟨-, h⟩ := zd_s h
      by_cases e : (mS (mTr (m1 k.toNatClampNeg).toNatClampNeg).toNatClampNeg).toInt64 - (mS (mTr (m1 k.toNatClampNeg).toNatClampNeg).toNatClampNeg).toInt64 / (mS (mTr k.toNatClampNeg).toNatClampNeg).toInt64 * (mS (mTr k.toNatClampNeg).toNatClampNeg).toInt64 = 0
      · rw [if_pos ((lg_cmp_eq _ _).mpr e)] at h
        rw [if_pos e]; exact (Option.some.inj h).symm
      · rw [if_neg (fun q => e ((lg_cmp_eq _ _).mp q))] at h
        rw [if_neg e]; exact (Option.some.inj h).symm
  · rw [if_neg c] at h ⊢
    obtain ⟨-, h⟩ := zg_s h
    by_cases d : m2 k.toNatClampNeg = (-1)
    · rw [if_pos d] at h ⊢
      rw [if_neg c] at h
      obtain ⟨-, h⟩ := zg_s h
      obtain ⟨-, h⟩ := zd_s h
      by_cases e : mB k.toNatClampNeg - mB k.toNatClampNeg / (mS (mTr k.toNatClampNeg).toNatClampNeg).toInt64 * (mS (mTr k.toNatClampNeg).toNatClampNeg).toInt64 = 0
      · rw [if_pos ((lg_cmp_eq _ _).mpr e)] at h
        rw [if_pos e]; exact (Option.some.inj h).symm
      · rw [if_neg (fun q => e ((lg_cmp_eq _ _).mp q))] at h
        rw [if_neg e]; exact (Option.some.inj h).symm
    · rw [if_neg d] at h ⊢
      obtain ⟨-, h⟩ := zg_s h
      obtain ⟨-, h⟩ := zg_s h
      obtain ⟨-, h⟩ := zd_s h
      by_cases e : (mS (mTr (m2 k.toNatClampNeg).toNatClampNeg).toNatClampNeg).toInt64 - (mS (mTr (m2 k.toNatClampNeg).toNatClampNeg).toNatClampNeg).toInt64 / (mS (mTr k.toNatClampNeg).toNatClampNeg).toInt64 * (mS (mTr k.toNatClampNeg).toNatClampNeg).toInt64 = 0
      · rw [if_pos ((lg_cmp_eq _ _).mpr e)] at h
        rw [if_pos e]; exact (Option.some.inj h).symm
      · rw [if_neg (fun q => e ((lg_cmp_eq _ _).mp q))] at h
        rw [if_neg e]; exact (Option.some.inj h).symm
set_option maxHeartbeats 4000000 in
theorem zErM {k cF : Int32} {nN op fx al made amt lets mNN mO m1 m2 mX mW mTr mS : Nat → Int32} {mA mB er lo hi : Nat → Int64} {x : Nat → Int64} (hk : zN01 k cF nN op fx al made amt lets mNN mO m1 m2 mX mW mA mB) (h : fn_X12_laysError k mTr mS mO m1 m2 er mA mB lo hi = some x) : x = vp_updL er k.toNatClampNeg (zEr (op k.toNatClampNeg) (mS (mTr k.toNatClampNeg).toNatClampNeg).toInt64 (zCe (mS (mTr k.toNatClampNeg).toNatClampNeg).toInt64 (made (2 * k + 0).toNatClampNeg) (amt (2 * k + 0).toNatClampNeg) (mS (mTr (made (2 * k + 0).toNatClampNeg).toNatClampNeg).toNatClampNeg).toInt64 (er (made (2 * k + 0).toNatClampNeg).toNatClampNeg)) (zCe (mS (mTr k.toNatClampNeg).toNatClampNeg).toInt64 (made (2 * k + 1).toNatClampNeg) (amt (2 * k + 1).toNatClampNeg) (mS (mTr (made (2 * k + 1).toNatClampNeg).toNatClampNeg).toNatClampNeg).toInt64 (er (made (2 * k + 1).toNatClampNeg).toNatClampNeg)) (zAw (made (2 * k + 0).toNatClampNeg) (amt (2 * k + 0).toNatClampNeg) lo hi) (zAw (made (2 * k + 1).toNatClampNeg) (amt (2 * k + 1).toNatClampNeg) lo hi)) := by
  obtain ⟨q1, q2, q3, q4, q5, q6, q7, q8, q9, q10, q11, q12, q13, q14, q15, q16, q17⟩ := hk
  have h10 : ¬ (1 : Int32) = 0 := by decide
  unfold fn_X12_laysError at h
  simp only [zj, zn, zHighM] at h
  obtain ⟨-, h⟩ := zg_s h
  obtain ⟨-, h⟩ := zg_s h
  obtain ⟨-, h⟩ := zg_s h
  unfold zEr
  rw [q2]
  by_cases c0 : mO k.toNatClampNeg = 0
  · rw [if_pos c0] at h ⊢
    exact (Option.some.inj h).symm
  · rw [if_neg c0] at h ⊢
    obtain ⟨a, ha, h⟩ := zb_s h
    obtain ⟨b, hb, h⟩ := zb_s h
    have ha := zCeM ha
    have hb := zCeM hb
    rw [if_pos rfl, ← q5, q7] at ha
    rw [if_neg h10, ← q6, q8] at hb
    have ea : a = zCe (mS (mTr k.toNatClampNeg).toNatClampNeg).toInt64 (made (2 * k + 0).toNatClampNeg) (amt (2 * k + 0).toNatClampNeg) (mS (mTr (made (2 * k + 0).toNatClampNeg).toNatClampNeg).toNatClampNeg).toInt64 (er (made (2 * k + 0).toNatClampNeg).toNatClampNeg) := ha
    have eb : b = zCe (mS (mTr k.toNatClampNeg).toNatClampNeg).toInt64 (made (2 * k + 1).toNatClampNeg) (amt (2 * k + 1).toNatClampNeg) (mS (mTr (made (2 * k + 1).toNatClampNeg).toNatClampNeg).toNatClampNeg).toInt64 (er (made (2 * k + 1).toNatClampNeg).toNatClampNeg) := hb
    rw [← ea, ← eb]
    by_cases c1 : mO k.toNatClampNeg = 1
    · rw [if_pos c1] at h
      rw [if_pos (Or.inl c1)]
      obtain ⟨-, h⟩ := zg_s h
      exact (Option.some.inj h).symm
    · rw [if_neg c1] at h
      by_cases c2 : mO k.toNatClampNeg = 2
      · rw [if_pos c2] at h
        rw [if_pos (Or.inr c2)]
        obtain ⟨-, h⟩ := zg_s h
        exact (Option.some.inj h).symm
      · rw [if_neg c2] at h
        rw [if_neg (show ¬ (mO k.toNatClampNeg = 1 ∨ mO k.toNatClampNeg = 2) by rintro (q | q); exact c1 q; exact c2 q)]
        by_cases c3 : mO k.toNatClampNeg = 3
        · rw [if_pos c3] at h ⊢
          simp only [zAmo, zGre, zb_some] at h
          obtain ⟨l0, hl0, h⟩ := zb_s h
          obtain ⟨g0, hg0, h⟩ := zb_s h
          obtain ⟨l1, hl1, h⟩ := zb_s h
          obtain ⟨g1, hg1, h⟩ := zb_s h
          have hl0 := zLowM hl0
          have hg0 := zLowM hg0
          have hl1 := zLowM hl1
          have hg1 := zLowM hg1
          rw [if_pos rfl, ← q5, q7] at hl0 hg0
          rw [if_neg h10, ← q6, q8] at hl1 hg1
          rw [zFdM (by decide), zb_some] at h
          have e0 : zAw (made (2 * k + 0).toNatClampNeg) (amt (2 * k + 0).toNatClampNeg) lo hi = zMx (zAb l0) (zAb g0) := by rw [hl0, hg0]; rfl
          have e1 : zAw (made (2 * k + 1).toNatClampNeg) (amt (2 * k + 1).toNatClampNeg) lo hi = zMx (zAb l1) (zAb g1) := by rw [hl1, hg1]; rfl
          rw [e0, e1]
          exact (Option.some.inj h).symm
        · rw [if_neg c3] at h ⊢
          simp only [zGre, zb_some] at h
          exact (Option.some.inj h).symm
