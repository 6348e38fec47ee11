/-! ERRORS: what is reckoned line by line, of both -/
theorem zl_ip3 {σ τ ρ κ : Type} {B : σ → (σ → Option ρ) → Option ρ} {D : τ → (τ → Option κ) → Option κ} {P : ρ → κ → Prop} (R : σ → τ → Prop) (hB : ∀ (s : σ) (t : τ) (k1 : σ → Option ρ) (k2 : τ → Option κ) (o1 : ρ) (o2 : κ), R s t → (∀ s t o1 o2, R s t → k1 s = some o1 → k2 t = some o2 → P o1 o2) → (∀ t o, k2 t = some o → ∃ k3, D t k3 = some o) → B s k1 = some o1 → D t k2 = some o2 → P o1 o2) : ∀ (n m : Nat) (s : σ) (t : τ) (o1 : ρ) (o2 : κ), R s t → zl B n s = some o1 → zl D m t = some o2 → P o1 o2 := by
  intro n
  induction n with
  | zero => intro m s t o1 o2 _ h _; exact (zl_0 h).elim
  | succ n ih =>
    intro m s t o1 o2 hR h1 h2
    cases m with
    | zero => exact (zl_0 h2).elim
    | succ m =>
      refine hB s t (zl B n) (zl D m) o1 o2 hR (fun s t o1 o2 hR h1 h2 => ih m s t o1 o2 hR h1 h2) (fun t o h => ?_) (zl_s rfl h1) (zl_s rfl h2)
      cases m with
      | zero => exact (zl_0 h).elim
      | succ m => exact ⟨zl D m, zl_s rfl h⟩
theorem zoL_mul {x y z : Int64} {a b : Int} (e : z = x * y) (ha : x.toInt = a) (hb : y.toInt = b) (h : -9223372036854775808 ≤ a * b ∧ a * b < 9223372036854775808) : z.toInt = a * b := by
  rw [e, Int64.toInt_mul, ha, hb, Int.bmod_def]
  generalize a * b = q at h ⊢
  split <;> omega
theorem zl0 : (0 : Int64).toInt = 0 := by decide +kernel
theorem zl1000 : (1000 : Int64).toInt = 1000 := by decide +kernel
theorem zl999 : (999 : Int64).toInt = 999 := by decide +kernel
/-- a product by 1000, rounded up -/
theorem zceil {V : Int64} (h0 : 0 ≤ V.toInt) (h1 : V.toInt ≤ 9000000000000000000) : (V + 999) / 1000 = -zFd (-V) 1000 ∧ ((V + 999) / 1000).toInt = (V.toInt + 999) / 1000 := by
  have e1 := zoL_add (x := V) (y := 999) (z := V + 999) rfl rfl zl999 (by omega)
  have e2 : ((V + 999) / 1000).toInt = (V.toInt + 999) / 1000 := by
    rw [Int64.toInt_div_of_ne_right _ _ (by decide), e1, zl1000, Int.tdiv_eq_ediv_of_nonneg (by omega)]
  have e3 : (-V).toInt = -V.toInt := by
    have := zoL_sub (x := 0) (y := V) (z := 0 - V) rfl zl0 rfl (by omega)
    rw [Int64.zero_sub] at this
    omega
  have e4 : (-V / 1000).toInt = -(V.toInt / 1000) := by
    rw [Int64.toInt_div_of_ne_right _ _ (by decide), e3, zl1000, Int.neg_tdiv, Int.tdiv_eq_ediv_of_nonneg h0]
  have e5 := zoL_mul (x := -V / 1000) (y := 1000) (z := -V / 1000 * 1000) rfl e4 zl1000 (by omega)
  have e6 := zoL_sub (x := -V) (y := -V / 1000 * 1000) (z := -V - -V / 1000 * 1000) rfl e3 e5 (by omega)
  refine ⟨?_, e2⟩
  apply Int64.toInt_inj.mp
  rw [e2]
  have neg : ∀ z : Int64, ∀ n : Int, z.toInt = n → -9223372036854775807 ≤ n → n ≤ 9223372036854775807 → (-z).toInt = -n := by
    intro z n hz hn hn2
    have := zoL_sub (x := 0) (y := z) (z := 0 - z) rfl zl0 hz (by omega)
    rw [Int64.zero_sub] at this
    omega
  unfold zFd
  by_cases c : -V - -V / 1000 * 1000 = 0
  · rw [if_pos c, neg _ _ e4 (by omega) (by omega)]
    have c' : (-V - -V / 1000 * 1000).toInt = 0 := by rw [c]; exact zl0
    omega
  · rw [if_neg c]
    have c' : ¬ (-V - -V / 1000 * 1000).toInt = 0 := fun q => c (Int64.toInt_inj.mp (by rw [q, zl0]))
    by_cases d : 0 ≤ -V
    · have d' := Int64.le_iff_toInt_le.mp d
      rw [zl0, e3] at d'
      omega
    · rw [if_neg d]
      have e7 := zoL_sub (x := -V / 1000) (y := 1) (z := -V / 1000 - 1) rfl e4 (show (1 : Int64).toInt = 1 by decide +kernel) (by omega)
      rw [neg _ _ e7 (by omega) (by omega)]
      omega
theorem zmulb {x y : Int64} {A B : Int} (hx : 0 ≤ x.toInt ∧ x.toInt ≤ A) (hy : 0 ≤ y.toInt ∧ y.toInt ≤ B) (hAB : A * B < 9223372036854775808) : 0 ≤ (x * y).toInt ∧ (x * y).toInt ≤ A * B := by
  have h1 : x.toInt * y.toInt ≤ A * B := Int.mul_le_mul hx.2 hy.2 hy.1 (by omega)
  have h2 : 0 ≤ x.toInt * y.toInt := Int.mul_nonneg hx.1 hy.1
  have h3 := zoL_mul (x := x) (y := y) (z := x * y) rfl rfl rfl ⟨by omega, by omega⟩
  omega
/-- the choice of the class by groups, what the reference tries by NUMBERS -/
noncomputable def zCh (cN cF : Int32) (gof ch mTr : Nat → Int32) : Prop := ∀ i : Int32, 0 ≤ i → i < cN → (0 ≤ gof i.toNatClampNeg ∧ gof i.toNatClampNeg < 14) ∧ ch (gof i.toNatClampNeg).toNatClampNeg = mTr i.toNatClampNeg ∧ 0 ≤ mTr i.toNatClampNeg ∧ mTr i.toNatClampNeg < cF
theorem zFmtOfP {i nP cN cF : Int32} {gof ch mTr : Nat → Int32} (hN : cN ≤ 14) (hP : nP ≤ cN) (C : zCh nP cF gof ch mTr) (hi : 0 ≤ i ∧ i < nP) : fn_X9_formatOf i cN gof ch = some (mTr i.toNatClampNeg) := by
  obtain ⟨⟨c1, c2⟩, c3, -⟩ := C i hi.1 hi.2
  unfold fn_X9_formatOf
  simp only [zj]
  rw [if_neg (by grind), if_neg (by grind), zg_in 14 (by decide +kernel) ⟨hi.1, by grind⟩, if_neg (by grind), if_neg (by grind), zg_in 14 (by decide +kernel) ⟨c1, c2⟩, c3]
theorem zFmtOf {i cN cF : Int32} {gof ch mTr : Nat → Int32} (hN : cN ≤ 14) (C : zCh cN cF gof ch mTr) (hi : 0 ≤ i ∧ i < cN) : fn_X9_formatOf i cN gof ch = some (mTr i.toNatClampNeg) := zFmtOfP hN (Int32.le_refl _) C hi
theorem zStpOf {f cF : Int32} {stp : Nat → Int32} (hF : cF ≤ 4) (hf : 0 ≤ f ∧ f < cF) : fn_X9_stepOf f cF stp = some (stp f.toNatClampNeg) := by
  unfold fn_X9_stepOf
  rw [if_neg (by grind), if_neg (by grind), zg_in 4 (by decide +kernel) ⟨hf.1, by grind⟩]
theorem zMstOf {f cF : Int32} {stp : Nat → Int32} (hF : cF ≤ 4) (hf : 0 ≤ f ∧ f < cF) : fn_X9_mostOf f cF stp = some (stp f.toNatClampNeg) := by
  unfold fn_X9_mostOf
  rw [if_neg (by grind), if_neg (by grind), zg_in 4 (by decide +kernel) ⟨hf.1, by grind⟩]
theorem zDivi {s a : Int64} (hs : ¬ s = 0) : fn_X11_divides s a = some (if a - a / s * s = 0 then 1 else 0) := by
  unfold fn_X11_divides zd
  rw [if_neg (fun q => hs ((lg_cmp_eq _ _).mp q)), if_neg hs]
  by_cases c : a - a / s * s = 0
  · rw [if_pos ((lg_cmp_eq _ _).mpr c), if_pos c]
  · rw [if_neg (fun q => c ((lg_cmp_eq _ _).mp q)), if_neg c]
theorem zhf64 (s : Int32) : (s / 2).toInt64 = s.toInt64 / 2 := by
  rw [Int32.toInt64_div_of_ne_right _ _ (by decide)]
  rfl
/-- the ERROR of a WHAT behind its cast; S: the step, own: the step of the NUMBER that it is -/
noncomputable def zCe (S : Int64) (m a : Int32) (own e : Int64) : Int64 := if m = (-1) then (if a.toInt64 - a.toInt64 / S * S = 0 then 0 else S / 2) else (if own - own / S * S = 0 then e else e + S / 2)
/-- the amount of a WHAT -/
noncomputable def zAw (m a : Int32) (lo hi : Nat → Int64) : Int64 := zMx (zAb (zVal m a lo)) (zAb (zVal m a hi))
noncomputable def zEr (p : Int32) (S a b x y : Int64) : Int64 := if p = 0 then S / 2 else if p = 1 ∨ p = 2 then a + b else if p = 3 then -zFd (-(x * b + y * a + a * b)) 1000 + S / 2 + 1 else zMx a b
theorem zst0 {s : Int32} (h : 1 ≤ s) : ¬ s.toInt64 = 0 := fun q => by have := (z64_0 s).mp q; grind
theorem zCeJ {i nP cN cF p4 : Int32} {gof ch mTr stp made amt : Nat → Int32} {er : Nat → Int64} (hN : cN ≤ 14) (hP : nP ≤ cN) (hF : cF ≤ 4) (C : zCh nP cF gof ch mTr) (hi0 : 0 ≤ i ∧ i < nP) (hs : ∀ f : Int32, 0 ≤ f → f < cF → 1 ≤ stp f.toNatClampNeg) (hp : p4 = 0 ∨ p4 = 1) (hm : (-1) ≤ made (2 * i + p4).toNatClampNeg ∧ made (2 * i + p4).toNatClampNeg < i) : fn_X7_errorBehindCast i p4 cF cN gof ch stp made er amt = some (zCe (stp (mTr i.toNatClampNeg).toNatClampNeg).toInt64 (made (2 * i + p4).toNatClampNeg) (amt (2 * i + p4).toNatClampNeg) (stp (mTr (made (2 * i + p4).toNatClampNeg).toNatClampNeg).toNatClampNeg).toInt64 (er (made (2 * i + p4).toNatClampNeg).toNatClampNeg)) := by
  have hi : 0 ≤ i ∧ i < cN := ⟨hi0.1, by have := hi0.2; grind⟩
  obtain ⟨-, -, c4, c5⟩ := C i hi0.1 hi0.2
  have s0 := zst0 (hs _ c4 c5)
  have em : fn_X4_madeOf i p4 cN made = some (made (2 * i + p4).toNatClampNeg) := by
    rcases hp with rfl | rfl
    · exact zMade0 hN hi
    · exact zMade1 hN hi
  have ea : fn_X4_amountOf i p4 cN amt = some (amt (2 * i + p4).toNatClampNeg).toInt64 := by
    rcases hp with rfl | rfl
    · exact zAmt0 hN hi
    · exact zAmt1 hN hi
  unfold fn_X7_errorBehindCast zCe
  simp only [zj, zFmtOfP hN hP C hi0, zStpOf hF ⟨c4, c5⟩, em, ea, zDivi s0, zb_some, zhf64]
  by_cases c : made (2 * i + p4).toNatClampNeg = (-1)
  · rw [if_pos (by rw [c]; decide), if_pos c]
    by_cases d : (amt (2 * i + p4).toNatClampNeg).toInt64 - (amt (2 * i + p4).toNatClampNeg).toInt64 / (stp (mTr i.toNatClampNeg).toNatClampNeg).toInt64 * (stp (mTr i.toNatClampNeg).toNatClampNeg).toInt64 = 0
    · rw [if_pos d, if_pos d, if_neg (by decide)]
    · rw [if_neg d, if_neg d, if_pos rfl]
  · have m0 : 0 ≤ made (2 * i + p4).toNatClampNeg ∧ made (2 * i + p4).toNatClampNeg < nP := ⟨by grind, by have := hi0.2; grind⟩
    obtain ⟨-, -, d4, d5⟩ := C _ m0.1 m0.2
    rw [if_neg (by grind), if_pos hm.2, if_neg c, zFmtOfP hN hP C m0, zb_some, zStpOf hF ⟨d4, d5⟩, zb_some, zg_in 14 (by decide +kernel) ⟨m0.1, by grind⟩]
    by_cases d : (stp (mTr (made (2 * i + p4).toNatClampNeg).toNatClampNeg).toNatClampNeg).toInt64 - (stp (mTr (made (2 * i + p4).toNatClampNeg).toNatClampNeg).toNatClampNeg).toInt64 / (stp (mTr i.toNatClampNeg).toNatClampNeg).toInt64 * (stp (mTr i.toNatClampNeg).toNatClampNeg).toInt64 = 0
    · rw [if_pos d, if_pos d, if_neg (by decide), Int64.add_zero]
    · rw [if_neg d, if_neg d, if_pos rfl]
theorem zMx_self (a : Int64) : zMx a a = a := by
  unfold zMx
  by_cases c : a < a
  · rw [if_pos c]
  · rw [if_neg c]
theorem zAwJ {i cN p4 : Int32} {made amt : Nat → Int32} {lo hi : Nat → Int64} (hN : cN ≤ 14) (hi' : 0 ≤ i ∧ i < cN) (hp : p4 = 0 ∨ p4 = 1) (hm : (-1) ≤ made (2 * i + p4).toNatClampNeg ∧ made (2 * i + p4).toNatClampNeg < i) : fn_X6_amountOfWhat i p4 cN made amt lo hi = some (zAw (made (2 * i + p4).toNatClampNeg) (amt (2 * i + p4).toNatClampNeg) lo hi) := by
  have em : fn_X4_madeOf i p4 cN made = some (made (2 * i + p4).toNatClampNeg) := by
    rcases hp with rfl | rfl
    · exact zMade0 hN hi'
    · exact zMade1 hN hi'
  have ea : fn_X4_amountOf i p4 cN amt = some (amt (2 * i + p4).toNatClampNeg).toInt64 := by
    rcases hp with rfl | rfl
    · exact zAmt0 hN hi'
    · exact zAmt1 hN hi'
  unfold fn_X6_amountOfWhat zAw zVal
  simp only [em, ea, zb_some]
  by_cases c : made (2 * i + p4).toNatClampNeg = (-1)
  · rw [if_pos (by rw [c]; decide), if_pos c, if_pos c, zMx_self]
    rfl
  · rw [if_neg (by grind), if_pos hm.2, if_neg c, if_neg c, zg_in 14 (by decide +kernel) ⟨by grind, by grind⟩]
    rfl
set_option maxHeartbeats 4000000 in
theorem zErJ {i nP cN cF : Int32} {gof ch mTr stp op made amt : Nat → Int32} {er lo hi : Nat → Int64} (hN : cN ≤ 14) (hP : nP ≤ cN) (hF : cF ≤ 4) (C : zCh nP cF gof ch mTr) (hi0 : 0 ≤ i ∧ i < nP) (hs : ∀ f : Int32, 0 ≤ f → f < cF → 1 ≤ stp f.toNatClampNeg) (hk : zOk i op made)
    (hV : op i.toNatClampNeg = 3 → ∀ a b x y : Int64, a = zCe (stp (mTr i.toNatClampNeg).toNatClampNeg).toInt64 (made (2 * i + 0).toNatClampNeg) (amt (2 * i + 0).toNatClampNeg) (stp (mTr (made (2 * i + 0).toNatClampNeg).toNatClampNeg).toNatClampNeg).toInt64 (er (made (2 * i + 0).toNatClampNeg).toNatClampNeg) → b = zCe (stp (mTr i.toNatClampNeg).toNatClampNeg).toInt64 (made (2 * i + 1).toNatClampNeg) (amt (2 * i + 1).toNatClampNeg) (stp (mTr (made (2 * i + 1).toNatClampNeg).toNatClampNeg).toNatClampNeg).toInt64 (er (made (2 * i + 1).toNatClampNeg).toNatClampNeg) → x = zAw (made (2 * i + 0).toNatClampNeg) (amt (2 * i + 0).toNatClampNeg) lo hi → y = zAw (made (2 * i + 1).toNatClampNeg) (amt (2 * i + 1).toNatClampNeg) lo hi → 0 ≤ (x * b + y * a + a * b).toInt ∧ (x * b + y * a + a * b).toInt ≤ 9000000000000000000) :
    fn_X7_errorOf i cF cN gof ch stp op made er amt lo hi = some (zEr (op i.toNatClampNeg) (stp (mTr i.toNatClampNeg).toNatClampNeg).toInt64 (zCe (stp (mTr i.toNatClampNeg).toNatClampNeg).toInt64 (made (2 * i + 0).toNatClampNeg) (amt (2 * i + 0).toNatClampNeg) (stp (mTr (made (2 * i + 0).toNatClampNeg).toNatClampNeg).toNatClampNeg).toInt64 (er (made (2 * i + 0).toNatClampNeg).toNatClampNeg)) (zCe (stp (mTr i.toNatClampNeg).toNatClampNeg).toInt64 (made (2 * i + 1).toNatClampNeg) (amt (2 * i + 1).toNatClampNeg) (stp (mTr (made (2 * i + 1).toNatClampNeg).toNatClampNeg).toNatClampNeg).toInt64 (er (made (2 * i + 1).toNatClampNeg).toNatClampNeg)) (zAw (made (2 * i + 0).toNatClampNeg) (amt (2 * i + 0).toNatClampNeg) lo hi) (zAw (made (2 * i + 1).toNatClampNeg) (amt (2 * i + 1).toNatClampNeg) lo hi)) := by
  have hi' : 0 ≤ i ∧ i < cN := ⟨hi0.1, by have := hi0.2; grind⟩
  obtain ⟨-, -, c4, c5⟩ := C i hi0.1 hi0.2
  obtain ⟨k1, k2, k3, k4⟩ := hk
  unfold fn_X7_errorOf zEr
  simp only [zFmtOfP hN hP C hi0, zStpOf hF ⟨c4, c5⟩, zCeJ hN hP hF C hi0 hs (Or.inl rfl) k2, zCeJ hN hP hF C hi0 hs (Or.inr rfl) k3, zAwJ hN hi' (Or.inl rfl) k2, zAwJ hN hi' (Or.inr rfl) k3, zb_some, zhf64, zn]
  rw [zg_in 14 (by decide +kernel) ⟨hi'.1, by grind⟩]
  by_cases c0 : op i.toNatClampNeg = 0
  · rw [if_pos c0, if_pos c0]
  · rw [if_neg c0, if_neg c0]
    have hV := fun q => hV q _ _ _ _ rfl rfl rfl rfl
    generalize zCe (stp (mTr i.toNatClampNeg).toNatClampNeg).toInt64 (made (2 * i + 0).toNatClampNeg) (amt (2 * i + 0).toNatClampNeg) (stp (mTr (made (2 * i + 0).toNatClampNeg).toNatClampNeg).toNatClampNeg).toInt64 (er (made (2 * i + 0).toNatClampNeg).toNatClampNeg) = a at hV ⊢
    generalize zCe (stp (mTr i.toNatClampNeg).toNatClampNeg).toInt64 (made (2 * i + 1).toNatClampNeg) (amt (2 * i + 1).toNatClampNeg) (stp (mTr (made (2 * i + 1).toNatClampNeg).toNatClampNeg).toNatClampNeg).toInt64 (er (made (2 * i + 1).toNatClampNeg).toNatClampNeg) = b at hV ⊢
    by_cases c4 : op i.toNatClampNeg = 4
    · rw [if_pos c4, if_neg (show ¬ (op i.toNatClampNeg = 1 ∨ op i.toNatClampNeg = 2) by rw [c4]; decide), if_neg (show ¬ op i.toNatClampNeg = 3 by rw [c4]; decide)]
      rfl
    · rw [if_neg c4]
      by_cases c5 : op i.toNatClampNeg = 5
      · rw [if_pos c5, if_neg (show ¬ (op i.toNatClampNeg = 1 ∨ op i.toNatClampNeg = 2) by rw [c5]; decide), if_neg (show ¬ op i.toNatClampNeg = 3 by rw [c5]; decide)]
        rfl
      · rw [if_neg c5]
        by_cases c3 : op i.toNatClampNeg = 3
        · rw [if_pos c3, if_neg (show ¬ (op i.toNatClampNeg = 1 ∨ op i.toNatClampNeg = 2) by rw [c3]; decide), if_pos c3, (zceil (hV c3).1 (hV c3).2).1]
        · rw [if_neg c3, if_pos (show op i.toNatClampNeg = 1 ∨ op i.toNatClampNeg = 2 by grind)]
/-! the reference's -/
theorem zCeM {k s : Int32} {mTr mS m1 m2 : Nat → Int32} {er mA mB : Nat → Int64} {x : Int64} (h : fn_X12_castError k s mTr mS m1 m2 er mA mB = some x) : x = if s = 0 then (if m1 k.toNatClampNeg = (-1) then (if mA k.toNatClampNeg - mA k.toNatClampNeg / (mS (mTr k.toNatClampNeg).toNatClampNeg).toInt64 * (mS (mTr k.toNatClampNeg).toNatClampNeg).toInt64 = 0 then 0 else (mS (mTr k.toNatClampNeg).toNatClampNeg).toInt64 / 2) else (if (mS (mTr (m1 k.toNatClampNeg).toNatClampNeg).toNatClampNeg).toInt64 - (mS (mTr (m1 k.toNatClampNeg).toNatClampNeg).toNatClampNeg).toInt64 / (mS (mTr k.toNatClampNeg).toNatClampNeg).toInt64 * (mS (mTr k.toNatClampNeg).toNatClampNeg).toInt64 = 0 then er (m1 k.toNatClampNeg).toNatClampNeg else er (m1 k.toNatClampNeg).toNatClampNeg + (mS (mTr k.toNatClampNeg).toNatClampNeg).toInt64 / 2)) else (if m2 k.toNatClampNeg = (-1) then (if mB k.toNatClampNeg - mB k.toNatClampNeg / (mS (mTr k.toNatClampNeg).toNatClampNeg).toInt64 * (mS (mTr k.toNatClampNeg).toNatClampNeg).toInt64 = 0 then 0 else (mS (mTr k.toNatClampNeg).toNatClampNeg).toInt64 / 2) else (if (mS (mTr (m2 k.toNatClampNeg).toNatClampNeg).toNatClampNeg).toInt64 - (mS (mTr (m2 k.toNatClampNeg).toNatClampNeg).toNatClampNeg).toInt64 / (mS (mTr k.toNatClampNeg).toNatClampNeg).toInt64 * (mS (mTr k.toNatClampNeg).toNatClampNeg).toInt64 = 0 then er (m2 k.toNatClampNeg).toNatClampNeg else er (m2 k.toNatClampNeg).toNatClampNeg + (mS (mTr k.toNatClampNeg).toNatClampNeg).toInt64 / 2)) := by
  unfold fn_X12_castError at h
  simp only [zj, zn] at h
  obtain ⟨-, h⟩ := zg_s h
  obtain ⟨-, h⟩ := zg_s h
  by_cases c : s = 0
  · rw [if_pos c] at h ⊢
    obtain ⟨-, h⟩ := zg_s h
    by_cases d : m1 k.toNatClampNeg = (-1)
    · rw [if_pos d] at h ⊢
      rw [if_pos c] at h
      obtain ⟨-, h⟩ := zg_s h
      obtain ⟨-, h⟩ := zd_s h
      by_cases e : mA k.toNatClampNeg - mA k.toNatClampNeg / (mS (mTr k.toNatClampNeg).toNatClampNeg).toInt64 * (mS (mTr k.toNatClampNeg).toNatClampNeg).toInt64 = 0
      · rw [if_pos ((lg_cmp_eq _ _).mpr e)] at h
        rw [if_pos e]; exact (Option.some.inj h).symm
      · rw [if_neg (fun q => e ((lg_cmp_eq _ _).mp q))] at h
        rw [if_neg e]; exact (Option.some.inj h).symm
    · rw [if_neg d] at h ⊢
      obtain ⟨-, h⟩ := zg_s h
      obtain ⟨-, h⟩ := zg_s h
      obtain ⟨-, h⟩ := zd_s h
      by_cases e : (mS (mTr (m1 k.toNatClampNeg).toNatClampNeg).toNatClampNeg).toInt64 - (mS (mTr (m1 k.toNatClampNeg).toNatClampNeg).toNatClampNeg).toInt64 / (mS (mTr k.toNatClampNeg).toNatClampNeg).toInt64 * (mS (mTr k.toNatClampNeg).toNatClampNeg).toInt64 = 0
      · rw [if_pos ((lg_cmp_eq _ _).mpr e)] at h
        rw [if_pos e]; exact (Option.some.inj h).symm
      · rw [if_neg (fun q => e ((lg_cmp_eq _ _).mp q))] at h
        rw [if_neg e]; exact (Option.some.inj h).symm
  · rw [if_neg c] at h ⊢
    obtain ⟨-, h⟩ := zg_s h
    by_cases d : m2 k.toNatClampNeg = (-1)
    · rw [if_pos d] at h ⊢
      rw [if_neg c] at h
      obtain ⟨-, h⟩ := zg_s h
      obtain ⟨-, h⟩ := zd_s h
      by_cases e : mB k.toNatClampNeg - mB k.toNatClampNeg / (mS (mTr k.toNatClampNeg).toNatClampNeg).toInt64 * (mS (mTr k.toNatClampNeg).toNatClampNeg).toInt64 = 0
      · rw [if_pos ((lg_cmp_eq _ _).mpr e)] at h
        rw [if_pos e]; exact (Option.some.inj h).symm
      · rw [if_neg (fun q => e ((lg_cmp_eq _ _).mp q))] at h
        rw [if_neg e]; exact (Option.some.inj h).symm
    · rw [if_neg d] at h ⊢
      obtain ⟨-, h⟩ := zg_s h
      obtain ⟨-, h⟩ := zg_s h
      obtain ⟨-, h⟩ := zd_s h
      by_cases e : (mS (mTr (m2 k.toNatClampNeg).toNatClampNeg).toNatClampNeg).toInt64 - (mS (mTr (m2 k.toNatClampNeg).toNatClampNeg).toNatClampNeg).toInt64 / (mS (mTr k.toNatClampNeg).toNatClampNeg).toInt64 * (mS (mTr k.toNatClampNeg).toNatClampNeg).toInt64 = 0
      · rw [if_pos ((lg_cmp_eq _ _).mpr e)] at h
        rw [if_pos e]; exact (Option.some.inj h).symm
      · rw [if_neg (fun q => e ((lg_cmp_eq _ _).mp q))] at h
        rw [if_neg e]; exact (Option.some.inj h).symm
set_option maxHeartbeats 4000000 in
theorem zErM {k cF : Int32} {nN op fx al made amt lets mNN mO m1 m2 mX mW mTr mS : Nat → Int32} {mA mB er lo hi : Nat → Int64} {x : Nat → Int64} (hk : zN01 k cF nN op fx al made amt lets mNN mO m1 m2 mX mW mA mB) (h : fn_X12_laysError k mTr mS mO m1 m2 er mA mB lo hi = some x) : x = vp_updL er k.toNatClampNeg (zEr (op k.toNatClampNeg) (mS (mTr k.toNatClampNeg).toNatClampNeg).toInt64 (zCe (mS (mTr k.toNatClampNeg).toNatClampNeg).toInt64 (made (2 * k + 0).toNatClampNeg) (amt (2 * k + 0).toNatClampNeg) (mS (mTr (made (2 * k + 0).toNatClampNeg).toNatClampNeg).toNatClampNeg).toInt64 (er (made (2 * k + 0).toNatClampNeg).toNatClampNeg)) (zCe (mS (mTr k.toNatClampNeg).toNatClampNeg).toInt64 (made (2 * k + 1).toNatClampNeg) (amt (2 * k + 1).toNatClampNeg) (mS (mTr (made (2 * k + 1).toNatClampNeg).toNatClampNeg).toNatClampNeg).toInt64 (er (made (2 * k + 1).toNatClampNeg).toNatClampNeg)) (zAw (made (2 * k + 0).toNatClampNeg) (amt (2 * k + 0).toNatClampNeg) lo hi) (zAw (made (2 * k + 1).toNatClampNeg) (amt (2 * k + 1).toNatClampNeg) lo hi)) := by
  obtain ⟨q1, q2, q3, q4, q5, q6, q7, q8, q9, q10, q11, q12, q13, q14, q15, q16, q17⟩ := hk
  have h10 : ¬ (1 : Int32) = 0 := by decide
  unfold fn_X12_laysError at h
  simp only [zj, zn, zHighM] at h
  obtain ⟨-, h⟩ := zg_s h
  obtain ⟨-, h⟩ := zg_s h
  obtain ⟨-, h⟩ := zg_s h
  unfold zEr
  rw [q2]
  by_cases c0 : mO k.toNatClampNeg = 0
  · rw [if_pos c0] at h ⊢
    exact (Option.some.inj h).symm
  · rw [if_neg c0] at h ⊢
    obtain ⟨a, ha, h⟩ := zb_s h
    obtain ⟨b, hb, h⟩ := zb_s h
    have ha := zCeM ha
    have hb := zCeM hb
    rw [if_pos rfl, ← q5, q7] at ha
    rw [if_neg h10, ← q6, q8] at hb
    have ea : a = zCe (mS (mTr k.toNatClampNeg).toNatClampNeg).toInt64 (made (2 * k + 0).toNatClampNeg) (amt (2 * k + 0).toNatClampNeg) (mS (mTr (made (2 * k + 0).toNatClampNeg).toNatClampNeg).toNatClampNeg).toInt64 (er (made (2 * k + 0).toNatClampNeg).toNatClampNeg) := ha
    have eb : b = zCe (mS (mTr k.toNatClampNeg).toNatClampNeg).toInt64 (made (2 * k + 1).toNatClampNeg) (amt (2 * k + 1).toNatClampNeg) (mS (mTr (made (2 * k + 1).toNatClampNeg).toNatClampNeg).toNatClampNeg).toInt64 (er (made (2 * k + 1).toNatClampNeg).toNatClampNeg) := hb
    rw [← ea, ← eb]
    by_cases c1 : mO k.toNatClampNeg = 1
    · rw [if_pos c1] at h
      rw [if_pos (Or.inl c1)]
      obtain ⟨-, h⟩ := zg_s h
      exact (Option.some.inj h).symm
    · rw [if_neg c1] at h
      by_cases c2 : mO k.toNatClampNeg = 2
      · rw [if_pos c2] at h
        rw [if_pos (Or.inr c2)]
        obtain ⟨-, h⟩ := zg_s h
        exact (Option.some.inj h).symm
      · rw [if_neg c2] at h
        rw [if_neg (show ¬ (mO k.toNatClampNeg = 1 ∨ mO k.toNatClampNeg = 2) by rintro (q | q); exact c1 q; exact c2 q)]
        by_cases c3 : mO k.toNatClampNeg = 3
        · rw [if_pos c3] at h ⊢
          simp only [zAmo, zGre, zb_some] at h
          obtain ⟨l0, hl0, h⟩ := zb_s h
          obtain ⟨g0, hg0, h⟩ := zb_s h
          obtain ⟨l1, hl1, h⟩ := zb_s h
          obtain ⟨g1, hg1, h⟩ := zb_s h
          have hl0 := zLowM hl0
          have hg0 := zLowM hg0
          have hl1 := zLowM hl1
          have hg1 := zLowM hg1
          rw [if_pos rfl, ← q5, q7] at hl0 hg0
          rw [if_neg h10, ← q6, q8] at hl1 hg1
          rw [zFdM (by decide), zb_some] at h
          have e0 : zAw (made (2 * k + 0).toNatClampNeg) (amt (2 * k + 0).toNatClampNeg) lo hi = zMx (zAb l0) (zAb g0) := by rw [hl0, hg0]; rfl
          have e1 : zAw (made (2 * k + 1).toNatClampNeg) (amt (2 * k + 1).toNatClampNeg) lo hi = zMx (zAb l1) (zAb g1) := by rw [hl1, hg1]; rfl
          rw [e0, e1]
          exact (Option.some.inj h).symm
        · rw [if_neg c3] at h ⊢
          simp only [zGre, zb_some] at h
          exact (Option.some.inj h).symm
/-! a CHOICE that is reckoned: whether it PASSES, where it FAILS, its ERRORS -/
theorem zAb_i {x : Int64} (h : -9223372036854775808 < x.toInt) : (zAb x).toInt = x.toInt ∧ 0 ≤ x.toInt ∨ (zAb x).toInt = -x.toInt ∧ x.toInt ≤ 0 := by
  unfold zAb
  by_cases c : 0 < x
  · rw [if_pos c]
    have := Int64.lt_iff_toInt_lt.mp c
    rw [zl0] at this
    exact Or.inl ⟨rfl, by omega⟩
  · rw [if_neg c]
    have c' : ¬ (0 : Int64).toInt < x.toInt := fun q => c (Int64.lt_iff_toInt_lt.mpr q)
    rw [zl0] at c'
    have := zoL_sub (x := 0) (y := x) (z := 0 - x) rfl zl0 rfl (by omega)
    rw [Int64.zero_sub] at this
    exact Or.inr ⟨by omega, by omega⟩
theorem zMx_i (a b : Int64) : (zMx a b).toInt = a.toInt ∧ b.toInt ≤ a.toInt ∨ (zMx a b).toInt = b.toInt ∧ a.toInt ≤ b.toInt := by
  unfold zMx
  by_cases c : b < a
  · rw [if_pos c]
    have := Int64.lt_iff_toInt_lt.mp c
    exact Or.inl ⟨rfl, by omega⟩
  · rw [if_neg c]
    have c' : ¬ b.toInt < a.toInt := fun q => c (Int64.lt_iff_toInt_lt.mpr q)
    exact Or.inr ⟨rfl, by omega⟩
theorem zHd_i (x : Int64) : zHd x = x ∧ -2000000000 ≤ x.toInt ∧ x.toInt ≤ 2000000000 ∨ (zHd x).toInt = 2000000000 ∧ 2000000000 < x.toInt ∨ (zHd x).toInt = -2000000000 ∧ x.toInt < -2000000000 := by
  have e1 : (2000000000 : Int64).toInt = 2000000000 := by decide +kernel
  have e2 : (-2000000000 : Int64).toInt = -2000000000 := by decide +kernel
  unfold zHd
  by_cases c : x < 2000000000
  · rw [if_pos c]
    have h1 := Int64.lt_iff_toInt_lt.mp c
    rw [e1] at h1
    by_cases d : x < -2000000000
    · rw [if_pos d]
      have h2 := Int64.lt_iff_toInt_lt.mp d
      rw [e2] at h2
      exact Or.inr (Or.inr ⟨e2, h2⟩)
    · rw [if_neg d]
      have h2 : ¬ x.toInt < (-2000000000 : Int64).toInt := fun q => d (Int64.lt_iff_toInt_lt.mpr q)
      rw [e2] at h2
      exact Or.inl ⟨rfl, by omega, by omega⟩
  · rw [if_neg c, if_neg (by decide)]
    have h1 : ¬ x.toInt < (2000000000 : Int64).toInt := fun q => c (Int64.lt_iff_toInt_lt.mpr q)
    rw [e1] at h1
    by_cases d : x.toInt = 2000000000
    · have : x = 2000000000 := Int64.toInt_inj.mp (by rw [d, e1])
      exact Or.inl ⟨this.symm, by omega, by omega⟩
    · exact Or.inr (Or.inl ⟨e1, by omega⟩)
theorem zAm_eq {L H E : Int64} {M : Int32} (hL : -6000000000000000 ≤ L.toInt ∧ L.toInt ≤ 6000000000000000) (hH : -6000000000000000 ≤ H.toInt ∧ H.toInt ≤ 6000000000000000) (hE : 0 ≤ E.toInt ∧ E.toInt ≤ 9000000000000000) (hM : M.toInt ≤ 1000000000) : (zMx (zAb (zHd L)) (zAb (zHd H)) + E ≤ M.toInt64 ↔ zMx (zAb L) (zAb H) + E ≤ M.toInt64) ∧ (zMx (zAb L) (zAb H) + E ≤ M.toInt64 → zHd L = L ∧ zHd H = H ∧ (-1000000000 ≤ L.toInt ∧ L.toInt ≤ 1000000000) ∧ (-1000000000 ≤ H.toInt ∧ H.toInt ≤ 1000000000) ∧ E.toInt ≤ 1000000000) := by
  have a1 := zAb_i (x := L) (by omega)
  have a2 := zAb_i (x := H) (by omega)
  have m1 := zMx_i (zAb L) (zAb H)
  have s1 := zoL_add (x := zMx (zAb L) (zAb H)) (y := E) rfl rfl rfl (by omega)
  have b1 := zHd_i L
  have b2 := zHd_i H
  have c1 := zAb_i (x := zHd L) (by rcases b1 with ⟨q, _⟩ | ⟨q, _⟩ | ⟨q, _⟩ <;> (rw [q]; omega))
  have c2 := zAb_i (x := zHd H) (by rcases b2 with ⟨q, _⟩ | ⟨q, _⟩ | ⟨q, _⟩ <;> (rw [q]; omega))
  have m2 := zMx_i (zAb (zHd L)) (zAb (zHd H))
  have d1 : (zHd L).toInt = L.toInt ∧ -2000000000 ≤ L.toInt ∧ L.toInt ≤ 2000000000 ∨ (zHd L).toInt = 2000000000 ∧ 2000000000 < L.toInt ∨ (zHd L).toInt = -2000000000 ∧ L.toInt < -2000000000 := b1.imp (fun q => ⟨by rw [q.1], q.2⟩) id
  have d2 : (zHd H).toInt = H.toInt ∧ -2000000000 ≤ H.toInt ∧ H.toInt ≤ 2000000000 ∨ (zHd H).toInt = 2000000000 ∧ 2000000000 < H.toInt ∨ (zHd H).toInt = -2000000000 ∧ H.toInt < -2000000000 := b2.imp (fun q => ⟨by rw [q.1], q.2⟩) id
  generalize zAb L = u1 at a1 m1 s1 ⊢
  generalize zAb H = u2 at a2 m1 s1 ⊢
  generalize zAb (zHd L) = v1 at c1 m2 ⊢
  generalize zAb (zHd H) = v2 at c2 m2 ⊢
  have bd : 0 ≤ v1.toInt ∧ v1.toInt ≤ 2000000000 ∧ 0 ≤ v2.toInt ∧ v2.toInt ≤ 2000000000 := by
    refine ⟨?_, ?_, ?_, ?_⟩ <;> omega
  have s2 := zoL_add (x := zMx v1 v2) (y := E) rfl rfl rfl (by omega)
  rw [Int64.le_iff_toInt_le, Int64.le_iff_toInt_le, s1, s2, z64_i]
  generalize (zMx u1 u2).toInt = w1 at m1 ⊢
  generalize (zMx v1 v2).toInt = w2 at m2 ⊢
  refine ⟨?_, fun q => ?_⟩
  · constructor
    · intro q; rcases d1 with d1 | d1 | d1 <;> rcases d2 with d2 | d2 | d2 <;> omega
    · intro q; rcases d1 with d1 | d1 | d1 <;> rcases d2 with d2 | d2 | d2 <;> omega
  · have k1 : -1000000000 ≤ L.toInt ∧ L.toInt ≤ 1000000000 := by omega
    have k2 : -1000000000 ≤ H.toInt ∧ H.toInt ≤ 1000000000 := by omega
    refine ⟨?_, ?_, k1, k2, by omega⟩
    · rcases b1 with ⟨e, _⟩ | ⟨_, e⟩ | ⟨_, e⟩
      · exact e
      · omega
      · omega
    · rcases b2 with ⟨e, _⟩ | ⟨_, e⟩ | ⟨_, e⟩
      · exact e
      · omega
      · omega
theorem zCe_c {S own own' e e' : Int64} {m a : Int32} (h : m = (-1) ∨ (own' = own ∧ e' = e)) : zCe S m a own' e' = zCe S m a own e := by
  unfold zCe
  rcases h with h | ⟨h1, h2⟩
  · rw [if_pos h, if_pos h]
  · rw [h1, h2]
theorem zhf_b {s : Int32} (h : 1 ≤ s ∧ s ≤ 1000000) : 0 ≤ (s.toInt64 / 2).toInt ∧ (s.toInt64 / 2).toInt ≤ 500000 := by
  have k1 := Int32.le_iff_toInt_le.mp h.1
  have k2 := Int32.le_iff_toInt_le.mp h.2
  rw [zi_1'] at k1
  rw [show (1000000 : Int32).toInt = 1000000 by decide +kernel] at k2
  rw [Int64.toInt_div_of_ne_right _ _ (by decide), z64_i, show (2 : Int64).toInt = 2 by decide +kernel, Int.tdiv_eq_ediv_of_nonneg (by omega)]
  omega
theorem zCe_b {s : Int32} {own e : Int64} {m a : Int32} (hs : 1 ≤ s ∧ s ≤ 1000000) (h : m = (-1) ∨ (0 ≤ e.toInt ∧ e.toInt ≤ 1000000000)) : 0 ≤ (zCe s.toInt64 m a own e).toInt ∧ (zCe s.toInt64 m a own e).toInt ≤ 2000000000 := by
  have hh := zhf_b hs
  unfold zCe
  by_cases c : m = (-1)
  · rw [if_pos c]
    by_cases d : a.toInt64 - a.toInt64 / s.toInt64 * s.toInt64 = 0
    · rw [if_pos d, zl0]; omega
    · rw [if_neg d]; omega
  · rw [if_neg c]
    have h := h.resolve_left c
    by_cases d : own - own / s.toInt64 * s.toInt64 = 0
    · rw [if_pos d]; omega
    · rw [if_neg d]
      have := zoL_add (x := e) (y := s.toInt64 / 2) rfl rfl rfl (by omega)
      omega
theorem zAw_b {m a : Int32} {lo hi : Nat → Int64} (ha : (-10000000) ≤ a ∧ a ≤ 10000000) (h : m = (-1) ∨ ((-1000000000 ≤ (lo m.toNatClampNeg).toInt ∧ (lo m.toNatClampNeg).toInt ≤ 1000000000) ∧ (-1000000000 ≤ (hi m.toNatClampNeg).toInt ∧ (hi m.toNatClampNeg).toInt ≤ 1000000000))) : 0 ≤ (zAw m a lo hi).toInt ∧ (zAw m a lo hi).toInt ≤ 1000000000 := by
  have k1 := Int32.le_iff_toInt_le.mp ha.1
  have k2 := Int32.le_iff_toInt_le.mp ha.2
  rw [show (-10000000 : Int32).toInt = -10000000 by decide +kernel] at k1
  rw [show (10000000 : Int32).toInt = 10000000 by decide +kernel] at k2
  have v : ∀ row : Nat → Int64, (m = (-1) ∨ (-1000000000 ≤ (row m.toNatClampNeg).toInt ∧ (row m.toNatClampNeg).toInt ≤ 1000000000)) → -1000000000 ≤ (zVal m a row).toInt ∧ (zVal m a row).toInt ≤ 1000000000 := by
    intro row hr
    unfold zVal
    by_cases c : m = (-1)
    · rw [if_pos c, z64_i]; omega
    · rw [if_neg c]; exact hr.resolve_left c
  have v1 := v lo (h.imp id (fun q => q.1))
  have v2 := v hi (h.imp id (fun q => q.2))
  have a1 := zAb_i (x := zVal m a lo) (by omega)
  have a2 := zAb_i (x := zVal m a hi) (by omega)
  have m1 := zMx_i (zAb (zVal m a lo)) (zAb (zVal m a hi))
  unfold zAw
  omega
theorem zV_b {a b x y : Int64} (ha : 0 ≤ a.toInt ∧ a.toInt ≤ 2000000000) (hb : 0 ≤ b.toInt ∧ b.toInt ≤ 2000000000) (hx : 0 ≤ x.toInt ∧ x.toInt ≤ 1000000000) (hy : 0 ≤ y.toInt ∧ y.toInt ≤ 1000000000) : 0 ≤ (x * b + y * a + a * b).toInt ∧ (x * b + y * a + a * b).toInt ≤ 8000000000000000000 := by
  have p1 := zmulb hx hb (by omega)
  have p2 := zmulb hy ha (by omega)
  have p3 := zmulb ha hb (by omega)
  have s1 := zoL_add (x := x * b) (y := y * a) (z := x * b + y * a) rfl rfl rfl (by omega)
  have s2 := zoL_add (x := x * b + y * a) (y := a * b) (z := x * b + y * a + a * b) rfl s1 rfl (by omega)
  omega
theorem zEr_b {p s : Int32} {a b x y : Int64} (hs : 1 ≤ s ∧ s ≤ 1000000) (ha : 0 ≤ a.toInt ∧ a.toInt ≤ 2000000000) (hb : 0 ≤ b.toInt ∧ b.toInt ≤ 2000000000) (hx : 0 ≤ x.toInt ∧ x.toInt ≤ 1000000000) (hy : 0 ≤ y.toInt ∧ y.toInt ≤ 1000000000) : 0 ≤ (zEr p s.toInt64 a b x y).toInt ∧ (zEr p s.toInt64 a b x y).toInt ≤ 9000000000000000 := by
  have hh := zhf_b hs
  unfold zEr
  by_cases c0 : p = 0
  · rw [if_pos c0]; omega
  · rw [if_neg c0]
    by_cases c1 : p = 1 ∨ p = 2
    · rw [if_pos c1]
      have := zoL_add (x := a) (y := b) rfl rfl rfl (by omega)
      omega
    · rw [if_neg c1]
      by_cases c3 : p = 3
      · rw [if_pos c3]
        have v := zV_b ha hb hx hy
        have z := zceil v.1 (by omega)
        rw [← z.1]
        generalize (x * b + y * a + a * b) = V at v z ⊢
        have s1 := zoL_add (x := (V + 999) / 1000) (y := s.toInt64 / 2) rfl z.2 rfl (by omega)
        have s2 := zoL_add (x := (V + 999) / 1000 + s.toInt64 / 2) (y := 1) rfl s1 (show (1 : Int64).toInt = 1 by decide +kernel) (by omega)
        omega
      · rw [if_neg c3]
        have := zMx_i a b
        omega
noncomputable def zPE (cN : Int32) (lo hi : Nat → Int64) (x : Int32 × Int32 × Int32 × (Nat → Int64)) (y : Int32 × Int32 × Int32 × (Nat → Int64) × (Nat → Int64) × (Nat → Int64)) : Prop :=
  x.1 = y.1 ∧ x.2.1 = y.2.1 ∧ x.2.2.1 = y.2.2.1 ∧ (x.1 = 1 ∧ x.2.1 = (-2) ∧ x.2.2.1 = 0 ∧ (∀ j : Int32, 0 ≤ j → j < cN → x.2.2.2 j.toNatClampNeg = y.2.2.2.2.2 j.toNatClampNeg ∧ y.2.2.2.1 j.toNatClampNeg = lo j.toNatClampNeg ∧ y.2.2.2.2.1 j.toNatClampNeg = hi j.toNatClampNeg ∧ (0 ≤ (x.2.2.2 j.toNatClampNeg).toInt ∧ (x.2.2.2 j.toNatClampNeg).toInt ≤ 1000000000) ∧ (-1000000000 ≤ (lo j.toNatClampNeg).toInt ∧ (lo j.toNatClampNeg).toInt ≤ 1000000000) ∧ (-1000000000 ≤ (hi j.toNatClampNeg).toInt ∧ (hi j.toNatClampNeg).toInt ≤ 1000000000))
  ∨ x.1 = 0 ∧ 0 ≤ x.2.1 ∧ x.2.1 < cN ∧ (x.2.2.1 = 1 ∨ x.2.2.1 = 2) ∧ (∀ j : Int32, 0 ≤ j → j ≤ x.2.1 → x.2.2.2 j.toNatClampNeg = y.2.2.2.2.2 j.toNatClampNeg))
theorem zIsAns {i cN : Int32} {al : Nat → Int32} (hN : cN ≤ 14) (hi : 0 ≤ i ∧ i < cN) : fn_X9_isAnswer i cN al = some (if al i.toNatClampNeg = (-1) then 0 else 1) := by
  unfold fn_X9_isAnswer
  rw [zHasN, zb_some, if_neg (by rw [zif1]; exact fun q => q hi), zg_in 14 (by decide +kernel) ⟨hi.1, by grind⟩]
  by_cases c : al i.toNatClampNeg = (-1)
  · rw [if_pos c, if_pos c]
  · rw [if_neg c, if_neg c]
set_option maxHeartbeats 8000000 in
theorem zPassEq {cF cc cN inp : Int32} {nF nN stp mst prc al made amt op fx jn lets gof mF mN mCst mNF mNN mS mM mC mW mO m1 m2 mX mG mTr : Nat → Int32} {mA mB mLe mGe mEr : Nat → Int64} {wn : Int32} {mb : Int64} {lo hi er0 : Nat → Int64} {ch wd : Nat → Int32} {x : Int32 × Int32 × Int32 × (Nat → Int64)} {y : Int32 × Int32 × Int32 × (Nat → Int64) × (Nat → Int64) × (Nat → Int64)} (T : zTN cF cc cN inp nF nN stp mst prc al made amt op fx jn lets mF mN mNF mNN mS mM mC mW mCst mO m1 m2 mX mG mA mB) (R : zRN cN wn mb op made amt wd lo hi) (hw : wn = (-1) ∨ op wn.toNatClampNeg = 0 ∧ 0 ≤ mb.toInt ∧ mb.toInt ≤ 10000000) (C : zCh cN cF gof ch mTr) (h1 : fn_X7_reckon cF cN gof ch stp op made er0 amt lo hi mst al = some x) (h2 : fn_X12_passes wn mb mN mO m1 m2 mLe mA mB mGe mTr mS mEr mM mW = some y) : zPE cN lo hi x y := by
  obtain ⟨⟨f1, f2, f3⟩, ⟨n1, n2, n3⟩, hC, hz, hp, hI, hf, hn, hg⟩ := T
  have hs : ∀ f : Int32, 0 ≤ f → f < cF → 1 ≤ stp f.toNatClampNeg := fun f f0 f1 => (hf f f0 f1).2.2.2.2.1.1
  unfold fn_X7_reckon at h1
  unfold fn_X12_passes at h2
  rw [zn01.1, n1] at h2
  refine zl_ip3 (P := fun x y => zPE cN lo hi x y) (fun s t => t.1 = s.1 ∧ 0 ≤ s.1 ∧ s.1 ≤ cN ∧ s.2.1 = 0 ∧ t.2.1 = (-2) ∧ t.2.2.1 = 0 ∧ (∀ j : Int32, 0 ≤ j → j < s.1 → s.2.2 j.toNatClampNeg = t.2.2.2.2.2 j.toNatClampNeg ∧ t.2.2.2.1 j.toNatClampNeg = lo j.toNatClampNeg ∧ t.2.2.2.2.1 j.toNatClampNeg = hi j.toNatClampNeg ∧ (0 ≤ (s.2.2 j.toNatClampNeg).toInt ∧ (s.2.2 j.toNatClampNeg).toInt ≤ 1000000000) ∧ (-1000000000 ≤ (lo j.toNatClampNeg).toInt ∧ (lo j.toNatClampNeg).toInt ≤ 1000000000) ∧ (-1000000000 ≤ (hi j.toNatClampNeg).toInt ∧ (hi j.toNatClampNeg).toInt ≤ 1000000000))) ?_ _ _ _ _ _ _ ?_ h1 h2
  rotate_left
  · exact ⟨rfl, (show (0 : Int32) ≤ 0 by decide), n2, rfl, rfl, rfl, fun j j0 j1 => absurd j1 (by show ¬ j < 0; grind)⟩
  intro s t k1 k2 o1 o2 ⟨R1, R2, R3, R4, R5, R6, R7⟩ hb hx ho1 ho2
  obtain ⟨i, rs, er⟩ := s
  obtain ⟨k, fa, fw, le, ge, em⟩ := t
  dsimp only at R1 R2 R3 R4 R5 R6 R7 ho1 ho2
  subst R1 R4 R5 R6
  by_cases c : cN ≤ k
  · rw [if_pos c] at ho1 ho2
    rw [if_pos rfl] at ho2
    have e : k = cN := by grind
    subst e
    rw [← Option.some.inj ho1, ← Option.some.inj ho2]
    exact ⟨rfl, rfl, rfl, Or.inl ⟨rfl, rfl, rfl, R7⟩⟩
  · rw [if_neg c] at ho1 ho2
    rw [if_pos rfl] at ho2
    have hi' : 0 ≤ k ∧ k < cN := ⟨R2, by grind⟩
    have h14 : 0 ≤ k ∧ k < 14 := ⟨R2, by grind⟩
    have hn1 := hn k hi'.1 hi'.2
    obtain ⟨-, -, t1, t2⟩ := C k hi'.1 hi'.2
    obtain ⟨-, g2, g3, -, g5, g6, -⟩ := hf _ t1 t2
    have ok := zOk_of hn1
    obtain ⟨q1, q2, q3, q4, q5, q6, q7, q8, q9, q10, q11, q12, q13, q14, q15, q16, q17⟩ := hn k hi'.1 hi'.2
    obtain ⟨r1, r2, -⟩ := R k hi'.1 hi'.2
    -- the WHATS, in both
    have part : ∀ m : Int32, (-1) ≤ m → m < k → m = (-1) ∨ (0 ≤ m ∧ m < cN ∧ er m.toNatClampNeg = em m.toNatClampNeg ∧ le m.toNatClampNeg = lo m.toNatClampNeg ∧ ge m.toNatClampNeg = hi m.toNatClampNeg ∧ (0 ≤ (er m.toNatClampNeg).toInt ∧ (er m.toNatClampNeg).toInt ≤ 1000000000) ∧ (-1000000000 ≤ (lo m.toNatClampNeg).toInt ∧ (lo m.toNatClampNeg).toInt ≤ 1000000000) ∧ (-1000000000 ≤ (hi m.toNatClampNeg).toInt ∧ (hi m.toNatClampNeg).toInt ≤ 1000000000)) := by
      intro m m0 m1
      by_cases w : m = (-1)
      · exact Or.inl w
      · exact Or.inr ⟨by grind, by grind, R7 m (by grind) m1⟩
    have pa := part _ q12.1 q12.2
    have pb := part _ q13.1 q13.2
    have eown : ∀ m : Int32, 0 ≤ m → m < cN → (mS (mTr m.toNatClampNeg).toNatClampNeg).toInt64 = (stp (mTr m.toNatClampNeg).toNatClampNeg).toInt64 := fun m m0 m1 => by
      obtain ⟨-, -, u1, u2⟩ := C m m0 m1
      rw [(hf _ u1 u2).2.1]
    generalize hS : stp (mTr k.toNatClampNeg).toNatClampNeg = S at *
    have ha := zCe_b (a := amt (2 * k + 0).toNatClampNeg) (own := (stp (mTr (made (2 * k + 0).toNatClampNeg).toNatClampNeg).toNatClampNeg).toInt64) g5 (pa.imp id (fun q => q.2.2.2.2.2.1))
    have hb' := zCe_b (a := amt (2 * k + 1).toNatClampNeg) (own := (stp (mTr (made (2 * k + 1).toNatClampNeg).toNatClampNeg).toNatClampNeg).toInt64) g5 (pb.imp id (fun q => q.2.2.2.2.2.1))
    have hxx := zAw_b q14 (pa.imp id (fun q => q.2.2.2.2.2.2))
    have hyy := zAw_b q15 (pb.imp id (fun q => q.2.2.2.2.2.2))
    have eJ := zErJ (amt := amt) (er := er) (lo := lo) (hi := hi) n3 (Int32.le_refl _) f3 C hi' hs ok (fun _ a b x y ea eb ex ey => by
      have v := zV_b (a := a) (b := b) (x := x) (y := y) (by rw [ea, hS]; exact ha) (by rw [eb, hS]; exact hb') (by rw [ex]; exact hxx) (by rw [ey]; exact hyy)
      exact ⟨v.1, by have := v.2; omega⟩)
    rw [hS] at eJ
    rw [eJ, zb_some] at ho1
    have bE := zEr_b (p := op k.toNatClampNeg) g5 ha hb' hxx hyy
    generalize hE : zEr (op k.toNatClampNeg) S.toInt64 (zCe S.toInt64 (made (2 * k + 0).toNatClampNeg) (amt (2 * k + 0).toNatClampNeg) (stp (mTr (made (2 * k + 0).toNatClampNeg).toNatClampNeg).toNatClampNeg).toInt64 (er (made (2 * k + 0).toNatClampNeg).toNatClampNeg)) (zCe S.toInt64 (made (2 * k + 1).toNatClampNeg) (amt (2 * k + 1).toNatClampNeg) (stp (mTr (made (2 * k + 1).toNatClampNeg).toNatClampNeg).toNatClampNeg).toInt64 (er (made (2 * k + 1).toNatClampNeg).toNatClampNeg)) (zAw (made (2 * k + 0).toNatClampNeg) (amt (2 * k + 0).toNatClampNeg) lo hi) (zAw (made (2 * k + 1).toNatClampNeg) (amt (2 * k + 1).toNatClampNeg) lo hi) = E at ho1 bE
    obtain ⟨-, ho1⟩ := zg_s ho1
    rw [zFmtOf n3 C hi', zb_some, zMstOf f3 ⟨t1, t2⟩, zb_some, zAmtOf h14, zb_some] at ho1
    have eE1 : vp_updL er k.toNatClampNeg E k.toNatClampNeg = E := by rw [zupL R2 R2, if_pos rfl]
    rw [eE1] at ho1
    simp only [zn, zj] at ho1
    -- the reference's line
    obtain ⟨u, hu, ho2⟩ := zb_s ho2
    obtain ⟨em', hem, ho2⟩ := zb_s ho2
    obtain ⟨am, ham, ho2⟩ := zb_s ho2
    have hu := zLaysR hn1 hu
    have hem := zErM hn1 hem
    have ham := zMostM ham
    obtain ⟨-, ho2⟩ := zg_s ho2
    obtain ⟨-, ho2⟩ := zg_s ho2
    obtain ⟨l1, l2⟩ := zLw_c (i := k) (op := op) (amt := amt) (made := made) (lo' := le) (hi' := ge) (lo := lo) (hi := hi) (pa.imp id (fun q => ⟨q.2.2.2.1, q.2.2.2.2.1⟩)) (pb.imp id (fun q => ⟨q.2.2.2.1, q.2.2.2.2.1⟩))
    rw [l1, l2] at hu
    have emore : (if k = wn ∧ op k.toNatClampNeg = 0 then mb else 0) = (if k = wn then mb else 0) := by
      by_cases w : k = wn
      · have : op k.toNatClampNeg = 0 := by
          rcases hw with v | v
          · rw [w, v] at R2; exact absurd R2 (by decide)
          · rw [w]; exact v.1
        rw [if_pos ⟨w, this⟩, if_pos w]
      · rw [if_neg w, if_neg (fun q => w q.1)]
    rw [emore] at hu
    have bmore : 0 ≤ (if k = wn then mb else (0 : Int64)).toInt ∧ (if k = wn then mb else (0 : Int64)).toInt ≤ 10000000 := by
      by_cases w : k = wn
      · rw [if_pos w]
        rcases hw with v | v
        · rw [w, v] at R2; exact absurd R2 (by decide)
        · exact v.2
      · rw [if_neg w, zl0]; omega
    have i64 : ∀ x : Int64, -1000000000 ≤ x.toInt ∧ x.toInt ≤ 1000000000 → -1000000000 ≤ x ∧ x ≤ 1000000000 := fun x hx => ⟨Int64.le_iff_toInt_le.mpr (by rw [show (-1000000000 : Int64).toInt = -1000000000 by decide +kernel]; exact hx.1), Int64.le_iff_toInt_le.mpr (by rw [show (1000000000 : Int64).toInt = 1000000000 by decide +kernel]; exact hx.2)⟩
    have bb := zLw_r hn1 (lo := lo) (hi := hi) (pa.imp id (fun q => ⟨i64 _ q.2.2.2.2.2.2.1, i64 _ q.2.2.2.2.2.2.2⟩)) (pb.imp id (fun q => ⟨i64 _ q.2.2.2.2.2.2.1, i64 _ q.2.2.2.2.2.2.2⟩))
    generalize (if k = wn then mb else (0 : Int64)) = more at hu r1 r2 bmore
    generalize hL : zLw k op made amt lo hi - more = L at hu r1
    generalize hH : zHg k op made amt lo hi + more = H at hu r2
    have e5 : (5000000000000000 : Int64).toInt = 5000000000000000 := by decide +kernel
    have e5' : (-5000000000000000 : Int64).toInt = -5000000000000000 := by decide +kernel
    have bl : -6000000000000000 ≤ L.toInt ∧ L.toInt ≤ 6000000000000000 := by
      have w1 := Int64.le_iff_toInt_le.mp bb.1.1
      have w2 := Int64.le_iff_toInt_le.mp bb.1.2
      rw [e5'] at w1
      rw [e5] at w2
      have := zoL_sub hL.symm rfl rfl (by omega)
      omega
    have bh : -6000000000000000 ≤ H.toInt ∧ H.toInt ≤ 6000000000000000 := by
      have w1 := Int64.le_iff_toInt_le.mp bb.2.1
      have w2 := Int64.le_iff_toInt_le.mp bb.2.2
      rw [e5'] at w1
      rw [e5] at w2
      have := zoL_add hH.symm rfl rfl (by omega)
      omega
    have eu1 : u.1 k.toNatClampNeg = L := by rw [hu]; show vp_updL le k.toNatClampNeg L k.toNatClampNeg = L; rw [zupL R2 R2, if_pos rfl]
    have eu2 : u.2 k.toNatClampNeg = H := by rw [hu]; show vp_updL ge k.toNatClampNeg H k.toNatClampNeg = H; rw [zupL R2 R2, if_pos rfl]
    have ejlt : ∀ j : Int32, 0 ≤ j → j < k → u.1 j.toNatClampNeg = le j.toNatClampNeg ∧ u.2 j.toNatClampNeg = ge j.toNatClampNeg := fun j j0 j1 => by
      rw [hu]
      exact ⟨by show vp_updL le k.toNatClampNeg L j.toNatClampNeg = _; rw [zupL R2 j0, if_neg (by grind)], by show vp_updL ge k.toNatClampNeg H j.toNatClampNeg = _; rw [zupL R2 j0, if_neg (by grind)]⟩
    have val : ∀ (m a : Int32), (-1) ≤ m → m < k → zAw m a u.1 u.2 = zAw m a lo hi := fun m a m0 m1 => by
      rcases part m m0 m1 with w | ⟨w0, _, _, w1, w2, _⟩
      · unfold zAw; rw [zVal_c (lo' := u.1) (lo := lo) (Or.inl w), zVal_c (lo' := u.2) (lo := hi) (Or.inl w)]
      · unfold zAw
        rw [zVal_c (lo' := u.1) (lo := lo) (Or.inr ((ejlt m w0 m1).1.trans w1)), zVal_c (lo' := u.2) (lo := hi) (Or.inr ((ejlt m w0 m1).2.trans w2))]
    have eS : mS (mTr k.toNatClampNeg).toNatClampNeg = S := by rw [← hS]; exact (hf _ t1 t2).2.1.symm
    have eem : em' = vp_updL em k.toNatClampNeg E := by
      rw [hem, eS, val _ _ q12.1 q12.2, val _ _ q13.1 q13.2, zCe_c (own := (stp (mTr (made (2 * k + 0).toNatClampNeg).toNatClampNeg).toNatClampNeg).toInt64) (e := er (made (2 * k + 0).toNatClampNeg).toNatClampNeg) (pa.imp id (fun q => ⟨eown _ q.1 q.2.1, q.2.2.1.symm⟩)), zCe_c (own := (stp (mTr (made (2 * k + 1).toNatClampNeg).toNatClampNeg).toNatClampNeg).toInt64) (e := er (made (2 * k + 1).toNatClampNeg).toNatClampNeg) (pb.imp id (fun q => ⟨eown _ q.1 q.2.1, q.2.2.1.symm⟩)), hE]
    have eE2 : em' k.toNatClampNeg = E := by rw [eem, zupL R2 R2, if_pos rfl]
    rw [eE2] at ho2
    rw [eu1, eu2] at ham
    have gM : (mM (mTr k.toNatClampNeg).toNatClampNeg) = mst (mTr k.toNatClampNeg).toNatClampNeg := g3.symm
    rw [gM] at ho2
    have bM : (mst (mTr k.toNatClampNeg).toNatClampNeg).toInt ≤ 1000000000 := by
      have := Int32.le_iff_toInt_le.mp g6.2
      rw [show (1000000000 : Int32).toInt = 1000000000 by decide +kernel] at this
      exact this
    obtain ⟨am1, am2⟩ := zAm_eq (M := mst (mTr k.toNatClampNeg).toNatClampNeg) bl bh bE bM
    rw [← r1, ← r2, ← ham] at am1
    rw [← ham] at am2
    -- where it fails here
    have erq : ∀ j : Int32, 0 ≤ j → j ≤ k → vp_updL er k.toNatClampNeg E j.toNatClampNeg = em' j.toNatClampNeg := by
      intro j j0 j1
      rw [eem, zupL R2 j0, zupL R2 j0]
      by_cases w : j = k
      · rw [if_pos w, if_pos w]
      · rw [if_neg w, if_neg w]; exact (R7 j j0 (by grind)).1
    have fail : ∀ (v : Int32), (v = 1 ∨ v = 2) → some ((0 : Int32), k, v, vp_updL er k.toNatClampNeg E) = some o1 → k2 (k + 1, k, v, u.1, u.2, em') = some o2 → zPE cN lo hi o1 o2 := by
      intro v hv w1 w2
      have v0 : ¬ v = 0 := by rcases hv with rfl | rfl <;> decide
      obtain ⟨k3, w3⟩ := hx _ _ w2
      try dsimp only at w3
      rw [if_neg v0] at w3
      have w4 : o2 = (0, k, v, u.1, u.2, em') := by
        by_cases z : cN ≤ k + 1
        · rw [if_pos z] at w3; exact (Option.some.inj w3).symm
        · rw [if_neg z, if_neg v0] at w3; exact (Option.some.inj w3).symm
      rw [← Option.some.inj w1, w4]
      exact ⟨rfl, rfl, rfl, Or.inr ⟨rfl, R2, hi'.2, hv, erq⟩⟩
    by_cases d : am + E ≤ (mst (mTr k.toNatClampNeg).toNatClampNeg).toInt64
    · rw [if_pos ((lg_cmp_le _ _).mpr (am1.mpr d)), zIsAns n3 hi', zb_some] at ho1
      rw [if_pos ((lg_cmp_le _ _).mpr d)] at ho2
      obtain ⟨-, ho2⟩ := zg_s ho2
      obtain ⟨y1, y2, y3, y4, y5⟩ := am2 d
      have go : k1 (k + 1, 0, vp_updL er k.toNatClampNeg E) = some o1 → k2 (k + 1, -2, 0, u.1, u.2, em') = some o2 → zPE cN lo hi o1 o2 := by
        intro w1 w2
        refine hb _ _ _ _ ?_ w1 w2
        refine ⟨rfl, (show 0 ≤ k + 1 by grind), (show k + 1 ≤ cN by grind), rfl, rfl, rfl, fun j j0 j1 => ?_⟩
        have j1 : j < k + 1 := j1
        show vp_updL er k.toNatClampNeg E j.toNatClampNeg = em' j.toNatClampNeg ∧ u.1 j.toNatClampNeg = lo j.toNatClampNeg ∧ u.2 j.toNatClampNeg = hi j.toNatClampNeg ∧ (0 ≤ (vp_updL er k.toNatClampNeg E j.toNatClampNeg).toInt ∧ (vp_updL er k.toNatClampNeg E j.toNatClampNeg).toInt ≤ 1000000000) ∧ _ ∧ _
        refine ⟨erq j j0 (by grind), ?_⟩
        by_cases w : j = k
        · subst w
          rw [eu1, eu2, zupL R2 j0, if_pos rfl, r1, r2, y1, y2]
          exact ⟨rfl, rfl, ⟨bE.1, y5⟩, y3, y4⟩
        · have lt : j < k := by grind
          rw [(ejlt j j0 lt).1, (ejlt j j0 lt).2, zupL R2 j0, if_neg w]
          exact (R7 j j0 lt).2
      rw [q4] at ho1
      have e00 : (0 : Int32) ≤ 0 := by decide
      have e10 : ¬ (1 : Int32) = 0 := by decide
      by_cases e : mW k.toNatClampNeg = (-1)
      · rw [if_pos e, if_pos rfl, if_pos trivial] at ho1
        rw [if_pos e, if_pos e00] at ho2
        exact go ho1 ho2
      · rw [if_neg e, if_neg e10] at ho1
        rw [if_neg e] at ho2
        by_cases w : E ≤ (mW k.toNatClampNeg).toInt64
        · rw [if_pos ((lg_cmp_le _ _).mpr w), if_pos trivial] at ho1
          rw [if_pos ((lg_cmp_le _ _).mpr w), if_pos e00] at ho2
          exact go ho1 ho2
        · rw [if_neg (fun q => w ((lg_cmp_le _ _).mp q)), if_neg (by decide)] at ho1
          rw [if_neg (fun q => w ((lg_cmp_le _ _).mp q))] at ho2
          exact fail 2 (Or.inr rfl) ho1 ho2
    · rw [if_neg (fun q => d (am1.mp ((lg_cmp_le _ _).mp q))), if_neg (by decide)] at ho1
      rw [if_neg (fun q => d ((lg_cmp_le _ _).mp q))] at ho2
      exact fail 1 (Or.inl rfl) ho1 ho2
/-! COSTS and casts; the CHOICE at hand -/
theorem zRN_1 {cN : Int32} {a b : Int64} {op made amt rwd : Nat → Int32} {rlo rhi : Nat → Int64} (h : zRN cN (-1) a op made amt rwd rlo rhi) : zRN cN (-1) b op made amt rwd rlo rhi := by
  intro i i0 i1
  obtain ⟨h1, h2, h3⟩ := h i i0 i1
  have ne : ¬ i = (-1) := by grind
  rw [if_neg ne] at h1 h2
  exact ⟨by rw [if_neg ne]; exact h1, by rw [if_neg ne]; exact h2, h3⟩
noncomputable def zCas (t : Nat → Int32) (i m : Int32) : Int32 := if m = (-1) then 0 else if t m.toNatClampNeg = t i.toNatClampNeg then 0 else 1
theorem zCastM {k m x : Int32} {t : Nat → Int32} (h : fn_X12_isCast k m t = some x) : x = zCas t k m := by
  unfold fn_X12_isCast at h
  unfold zCas
  by_cases c : m = (-1)
  · rw [if_pos c] at h ⊢
    exact (Option.some.inj h).symm
  · rw [if_neg c] at h ⊢
    obtain ⟨-, h⟩ := zg_s h
    obtain ⟨-, h⟩ := zg_s h
    by_cases d : t m.toNatClampNeg = t k.toNatClampNeg
    · rw [if_pos d] at h ⊢
      exact (Option.some.inj h).symm
    · rw [if_neg d] at h ⊢
      exact (Option.some.inj h).symm
theorem zCas_01 (t : Nat → Int32) (i m : Int32) : zCas t i m = 0 ∨ zCas t i m = 1 := by
  unfold zCas
  by_cases c : m = (-1)
  · rw [if_pos c]; exact Or.inl rfl
  · rw [if_neg c]
    by_cases d : t m.toNatClampNeg = t i.toNatClampNeg
    · rw [if_pos d]; exact Or.inl rfl
    · rw [if_neg d]; exact Or.inr rfl
set_option maxHeartbeats 4000000 in
theorem zCastsEq {cF cc cN inp : Int32} {nF nN stp mst prc al made amt op fx jn lets gof mF mN mCst mNF mNN mS mM mC mW mO m1 m2 mX mG mTr : Nat → Int32} {mA mB : Nat → Int64} {ch : Nat → Int32} {x y : Int32} (T : zTN cF cc cN inp nF nN stp mst prc al made amt op fx jn lets mF mN mNF mNN mS mM mC mW mCst mO m1 m2 mX mG mA mB) (C : zCh cN cF gof ch mTr) (h1 : fn_X9_castsOf cN made gof ch = some x) (h2 : fn_X12_castsTried mN m1 mTr m2 = some y) : x = y := by
  obtain ⟨hF, ⟨n1, n2, n3⟩, hC, hz, hp, hI, hf, hn, hg⟩ := T
  unfold fn_X9_castsOf at h1
  unfold fn_X12_castsTried at h2
  rw [zn01.1, n1] at h2
  refine zl_ip2 (P := fun x y => x = y) (fun s t => t = s ∧ 0 ≤ s.2 ∧ s.2 ≤ cN) ?_ _ _ _ _ _ _ ?_ h1 h2
  rotate_left
  · exact ⟨rfl, (show (0 : Int32) ≤ 0 by decide), n2⟩
  intro s t k1 k2 o1 o2 ⟨R1, R2, R3⟩ hb ho1 ho2
  subst R1
  obtain ⟨c, i⟩ := t
  dsimp only at R2 R3 ho1 ho2
  by_cases d : cN ≤ i
  · rw [if_pos d] at ho1 ho2
    rw [← Option.some.inj ho1, ← Option.some.inj ho2]
  · rw [if_neg d] at ho1 ho2
    have hi : 0 ≤ i ∧ i < cN := ⟨R2, by grind⟩
    obtain ⟨q1, q2, q3, q4, q5, q6, q7, q8, q9, q10, q11, q12, q13, q14⟩ := hn i hi.1 hi.2
    obtain ⟨-, ho2⟩ := zg_s ho2
    obtain ⟨a, ha, ho2⟩ := zb_s ho2
    have ha := zCastM ha
    rw [← q5] at ha
    simp only [zj] at ho2
    -- the reference: both at once
    have ho2 : ∃ b, b = zCas mTr i (made (2 * i + 1).toNatClampNeg) ∧ k2 (c + (a + b), i + 1) = some o2 := by
      rcases zCas_01 mTr i (made (2 * i + 0).toNatClampNeg) with z | z
      · rw [z] at ha
        rw [if_pos ha] at ho2
        obtain ⟨-, ho2⟩ := zg_s ho2
        obtain ⟨b, hb', ho2⟩ := zb_s ho2
        have hb' := zCastM hb'
        rw [← q6] at hb'
        refine ⟨b, hb', ?_⟩
        rcases zCas_01 mTr i (made (2 * i + 1).toNatClampNeg) with w | w
        · rw [if_pos (hb'.trans w)] at ho2
          rw [ha, hb', w]; exact ho2
        · rw [if_neg (by rw [hb', w]; decide)] at ho2
          rw [ha, hb', w]; exact ho2
      · rw [z] at ha
        rw [if_neg (by rw [ha]; decide)] at ho2
        obtain ⟨-, ho2⟩ := zg_s ho2
        obtain ⟨b, hb', ho2⟩ := zb_s ho2
        have hb' := zCastM hb'
        rw [← q6] at hb'
        refine ⟨b, hb', ?_⟩
        rcases zCas_01 mTr i (made (2 * i + 1).toNatClampNeg) with w | w
        · rw [if_pos (hb'.trans w)] at ho2
          rw [ha, hb', w]; exact ho2
        · rw [if_neg (by rw [hb', w]; decide)] at ho2
          rw [ha, hb', w]; exact ho2
    obtain ⟨b, eb, ho2⟩ := ho2
    -- the class: one side after the other
    have e1 : ∀ (v : Int32) (m : Int32), (-1) ≤ m → m < i → ∀ (kk : Int32 × Int32 → Option Int32) (s : Int32), (if m = (-1) then kk (v, s + 1) else zb (fn_X9_formatOf m cN gof ch) (fun o_10 => zb (fn_X9_formatOf i cN gof ch) (fun o_14 => if o_10 = o_14 then kk (v, s + 1) else kk (v + 1, s + 1)))) = kk (v + zCas mTr i m, s + 1) := by
      intro v m m0 m1 kk s
      unfold zCas
      by_cases w : m = (-1)
      · rw [if_pos w, if_pos w, Int32.add_zero]
      · rw [if_neg w, if_neg w, zFmtOf n3 C ⟨by grind, by grind⟩, zb_some, zFmtOf n3 C hi, zb_some]
        by_cases u : mTr m.toNatClampNeg = mTr i.toNatClampNeg
        · rw [if_pos u, if_pos u, Int32.add_zero]
        · rw [if_neg u, if_neg u]
    obtain ⟨B, eB, ho1⟩ := zl_g ho1
    have ho1 := zl_s eB ho1
    try dsimp only at ho1
    rw [if_neg (by decide), zMade0 n3 hi, zb_some, e1 _ _ q12.1 q12.2] at ho1
    have ho1 := zl_s eB ho1
    try dsimp only at ho1
    rw [show (0 + 1 : Int32) = 1 by decide, if_neg (by decide), zMade1 n3 hi, zb_some, e1 _ _ q13.1 q13.2] at ho1
    have ho1 := zl_s eB ho1
    try dsimp only at ho1
    rw [if_pos (by decide), ← eb, ← ha] at ho1
    refine hb _ _ _ _ ?_ ho1 ho2
    refine ⟨?_, (show 0 ≤ i + 1 by grind), (show i + 1 ≤ cN by grind)⟩
    show (c + (a + b), i + 1) = (c + a + b, i + 1)
    rw [Int32.add_assoc]
theorem zPriceEq {cF cc cN inp : Int32} {nF nN stp mst prc al made amt op fx jn lets gof mF mN mCst mNF mNN mS mM mC mW mO m1 m2 mX mG mTr : Nat → Int32} {mA mB : Nat → Int64} {ch : Nat → Int32} {x y : Int32} (T : zTN cF cc cN inp nF nN stp mst prc al made amt op fx jn lets mF mN mNF mNN mS mM mC mW mCst mO m1 m2 mX mG mA mB) (C : zCh cN cF gof ch mTr) (h1 : fn_X9_priceOf cF cc cN made gof ch prc = some x) (h2 : fn_X12_costTried mCst mN m1 mTr m2 mC = some y) : x = y := by
  have T0 := T
  obtain ⟨⟨f1, f2, f3⟩, ⟨n1, n2, n3⟩, hC, hz, hp, hI, hf, hn, hg⟩ := T
  unfold fn_X9_priceOf at h1
  unfold fn_X12_costTried at h2
  obtain ⟨a, ha, h1⟩ := zb_s h1
  obtain ⟨b, hb0, h2⟩ := zb_s h2
  have e := zCastsEq T0 C ha hb0
  subst e
  rw [zn01.1, n1, hC.1] at h2
  refine zl_ip2 (P := fun x y => x = y) (fun s t => t = s ∧ 0 ≤ s.2 ∧ s.2 ≤ cN) ?_ _ _ _ _ _ _ ?_ h1 h2
  rotate_left
  · exact ⟨rfl, (show (0 : Int32) ≤ 0 by decide), n2⟩
  intro s t k1 k2 o1 o2 ⟨R1, R2, R3⟩ hb ho1 ho2
  subst R1
  obtain ⟨c, i⟩ := t
  dsimp only at R2 R3 ho1 ho2
  by_cases d : cN ≤ i
  · rw [if_pos d] at ho1 ho2
    rw [← Option.some.inj ho1, ← Option.some.inj ho2]
  · rw [if_neg d] at ho1 ho2
    have hi : 0 ≤ i ∧ i < cN := ⟨R2, by grind⟩
    obtain ⟨-, -, t1, t2⟩ := C i hi.1 hi.2
    rw [zFmtOf n3 C hi, zb_some, zHasF, zb_some, if_neg (by rw [zif1]; exact fun q => q ⟨t1, t2⟩)] at ho1
    obtain ⟨-, ho1⟩ := zg_s ho1
    obtain ⟨-, ho2⟩ := zg_s ho2
    obtain ⟨-, ho2⟩ := zg_s ho2
    rw [(hf _ t1 t2).2.2.2.1] at ho1
    refine hb _ _ _ _ ?_ ho1 ho2
    exact ⟨rfl, (show 0 ≤ i + 1 by grind), (show i + 1 ≤ cN by grind)⟩
/-- the CHOICE at hand, where there is one -/
noncomputable def zHN (cN cF gcl mHh : Int32) (gof gfx hand mH : Nat → Int32) : Prop := (0 < cN → (mHh = 1 ∧ gcl = 0 ∨ mHh = 0 ∧ ¬ gcl = 0)) ∧ (cN = 0 → mHh = 0 ∨ mHh = 1) ∧ (0 < cN → gcl = 0 → zCh cN cF gof hand mH ∧ (∀ i : Int32, 0 ≤ i → i < cN → ¬ gfx (gof i.toNatClampNeg).toNatClampNeg = (-1) → hand (gof i.toNatClampNeg).toNatClampNeg = gfx (gof i.toNatClampNeg).toNatClampNeg))
theorem zHasC {cN gcl : Int32} (hN : 0 ≤ cN) : fn_X9_hasChoice cN gcl = some (if 0 < cN ∧ gcl = 0 then 1 else 0) := by
  unfold fn_X9_hasChoice
  by_cases c : cN ≤ 0
  · rw [if_pos c, if_neg (fun q => by have := q.1; grind)]
  · rw [if_neg c]
    by_cases d : gcl = 0
    · rw [if_pos d, if_pos ⟨by grind, d⟩]
    · rw [if_neg d, if_neg (fun q => d q.2)]
theorem zIsTh {cN cF gcl mHh : Int32} {gof gfx hand mH mN : Nat → Int32} (hN : mN 0 = cN ∧ 0 ≤ cN) (H : zHN cN cF gcl mHh gof gfx hand mH) : fn_X12_isThere mHh mN = some (if 0 < cN ∧ gcl = 0 then 1 else 0) := by
  unfold fn_X12_isThere
  rw [zn01.1, hN.1]
  by_cases c : 0 < cN
  · rcases H.1 c with ⟨a1, a2⟩ | ⟨a1, a2⟩
    · rw [if_neg (by rw [a1]; decide), if_neg (by grind), if_pos ⟨c, a2⟩]
    · rw [if_pos a1, if_neg (fun q => a2 q.2)]
  · have z : cN ≤ 0 := by grind
    rw [if_neg (show ¬ (0 < cN ∧ gcl = 0) from fun q => c q.1)]
    by_cases d : mHh = 0
    · rw [if_pos d]
    · rw [if_neg d, if_pos z]
theorem zTrH {cN : Int32} {mN mH mTr : Nat → Int32} {x : Nat → Int32} (hN : mN 0 = cN ∧ 0 ≤ cN ∧ cN ≤ 14) (h : fn_X12_triesHand mN mH mTr = some x) : ∀ i : Int32, 0 ≤ i → i < cN → x i.toNatClampNeg = mH i.toNatClampNeg := by
  unfold fn_X12_triesHand at h
  rw [zn01.1, hN.1] at h
  refine zl_ip (P := fun x : Nat → Int32 => ∀ i : Int32, 0 ≤ i → i < cN → x i.toNatClampNeg = mH i.toNatClampNeg) (fun s => 0 ≤ s.1 ∧ s.1 ≤ cN ∧ ∀ i : Int32, 0 ≤ i → i < s.1 → s.2 i.toNatClampNeg = mH i.toNatClampNeg) ?_ _ _ _ ?_ h
  rotate_left
  · exact ⟨(show (0 : Int32) ≤ 0 by decide), hN.2.1, fun i i0 i1 => absurd i1 (by show ¬ i < 0; grind)⟩
  intro s back o ⟨H1, H2, H3⟩ hb ho
  obtain ⟨k, row⟩ := s
  dsimp only at H1 H2 H3 ho
  by_cases c : cN ≤ k
  · rw [if_pos c] at ho
    rw [← Option.some.inj ho]
    exact fun i i0 i1 => H3 i i0 (by grind)
  · rw [if_neg c] at ho
    obtain ⟨-, ho⟩ := zg_s ho
    refine hb _ _ ?_ ho
    refine ⟨(show 0 ≤ k + 1 by grind), (show k + 1 ≤ cN by grind), fun i i0 i1 => ?_⟩
    have i1 : i < k + 1 := i1
    show upd row k.toNatClampNeg (mH k.toNatClampNeg) i.toNatClampNeg = mH i.toNatClampNeg
    rw [zup H1 i0]
    by_cases q : i = k
    · rw [if_pos q, q]
    · rw [if_neg q]; exact H3 i i0 (by grind)
theorem zTrG {cN : Int32} {mN mG mTr : Nat → Int32} {g f : Int32} {x : Nat → Int32} (hN : mN 0 = cN ∧ 0 ≤ cN ∧ cN ≤ 14) (h : fn_X12_triesGroup g f mN mG mTr = some x) : ∀ i : Int32, 0 ≤ i → i < cN → x i.toNatClampNeg = if mG i.toNatClampNeg = g then f else mTr i.toNatClampNeg := by
  unfold fn_X12_triesGroup at h
  rw [zn01.1, hN.1] at h
  refine zl_ip (P := fun x : Nat → Int32 => ∀ i : Int32, 0 ≤ i → i < cN → x i.toNatClampNeg = if mG i.toNatClampNeg = g then f else mTr i.toNatClampNeg) (fun s => 0 ≤ s.1 ∧ s.1 ≤ cN ∧ (∀ i : Int32, 0 ≤ i → i < s.1 → s.2 i.toNatClampNeg = if mG i.toNatClampNeg = g then f else mTr i.toNatClampNeg) ∧ (∀ i : Int32, 0 ≤ i → s.1 ≤ i → s.2 i.toNatClampNeg = mTr i.toNatClampNeg)) ?_ _ _ _ ?_ h
  rotate_left
  · exact ⟨(show (0 : Int32) ≤ 0 by decide), hN.2.1, fun i i0 i1 => absurd i1 (by show ¬ i < 0; grind), fun _ _ _ => rfl⟩
  intro s back o ⟨H1, H2, H3, H4⟩ hb ho
  obtain ⟨k, row⟩ := s
  dsimp only at H1 H2 H3 H4 ho
  by_cases c : cN ≤ k
  · rw [if_pos c] at ho
    rw [← Option.some.inj ho]
    exact fun i i0 i1 => H3 i i0 (by grind)
  · rw [if_neg c] at ho
    obtain ⟨-, ho⟩ := zg_s ho
    have nxt : ∀ v : Int32, v = (if mG k.toNatClampNeg = g then f else mTr k.toNatClampNeg) → back (k + 1, upd row k.toNatClampNeg v) = some o → ∀ i : Int32, 0 ≤ i → i < cN → o i.toNatClampNeg = if mG i.toNatClampNeg = g then f else mTr i.toNatClampNeg := by
      intro v hv hbk
      refine hb _ _ ?_ hbk
      refine ⟨(show 0 ≤ k + 1 by grind), (show k + 1 ≤ cN by grind), fun i i0 i1 => ?_, fun i i0 i1 => ?_⟩
      · have i1 : i < k + 1 := i1
        show upd row k.toNatClampNeg v i.toNatClampNeg = _
        rw [zup H1 i0]
        by_cases q : i = k
        · rw [if_pos q, hv, q]
        · rw [if_neg q]; exact H3 i i0 (by grind)
      · have i1 : k + 1 ≤ i := i1
        show upd row k.toNatClampNeg v i.toNatClampNeg = _
        rw [zup H1 i0, if_neg (by grind)]; exact H4 i i0 (by grind)
    by_cases d : mG k.toNatClampNeg = g
    · rw [if_pos d] at ho
      obtain ⟨-, ho⟩ := zg_s ho
      exact nxt f (by rw [if_pos d]) ho
    · rw [if_neg d] at ho
      obtain ⟨-, ho⟩ := zg_s ho
      exact nxt (row k.toNatClampNeg) (by rw [if_neg d]; exact H4 k H1 (by grind)) ho
theorem zCh_c {cN cF : Int32} {gof ch t t' : Nat → Int32} (C : zCh cN cF gof ch t) (h : ∀ i : Int32, 0 ≤ i → i < cN → t' i.toNatClampNeg = t i.toNatClampNeg) : zCh cN cF gof ch t' := by
  intro i i0 i1
  obtain ⟨c1, c2, c3, c4⟩ := C i i0 i1
  rw [h i i0 i1]
  exact ⟨c1, c2, c3, c4⟩
/-! calls that ask of the CHOICE at hand -/
theorem zHandP {cF cc cN inp gcl mHh mFa mFw : Int32} {nF nN stp mst prc al made amt op fx jn lets gof gfx rwd hand mF mN mCst mNF mNN mS mM mC mW mO m1 m2 mX mG mH mTr : Nat → Int32} {rlo rhi mA mB mLe mGe mEr : Nat → Int64} {mWb : Int64} {fa rs : Int32} {er0 : Nat → Int64} {x : Int32 × Int32 × Int32 × (Nat → Int64)} {y : Int32 × Int32 × Int32 × Int32 × (Nat → Int32) × (Nat → Int64) × (Nat → Int64) × (Nat → Int64)} (T : zTN cF cc cN inp nF nN stp mst prc al made amt op fx jn lets mF mN mNF mNN mS mM mC mW mCst mO m1 m2 mX mG mA mB) (R : zRN cN (-1) 0 op made amt rwd rlo rhi) (H : zHN cN cF gcl mHh gof gfx hand mH) (h1 : fn_X11_handPasses cF cN gcl fa rs gof hand stp op made er0 amt rlo rhi mst al = some x) (h2 : fn_X12_handPasses mWb mHh mFa mFw mN mH mTr mO m1 m2 mLe mA mB mGe mS mEr mM mW = some y) : (¬ (0 < cN ∧ gcl = 0) ∧ x.1 = 0 ∧ y.1 = 0) ∨ ((0 < cN ∧ gcl = 0) ∧ zPE cN rlo rhi x (y.1, y.2.2.1, y.2.2.2.1, y.2.2.2.2.2.1, y.2.2.2.2.2.2.1, y.2.2.2.2.2.2.2) ∧ (∀ i : Int32, 0 ≤ i → i < cN → y.2.2.2.2.1 i.toNatClampNeg = mH i.toNatClampNeg)) := by
  have hN := T.2.1
  have T0 := T
  unfold fn_X11_handPasses at h1
  unfold fn_X12_handPasses at h2
  rw [zHasC hN.2.1, zb_some] at h1
  rw [zn01.1, hN.1] at h2
  by_cases c : 0 < cN ∧ gcl = 0
  · right
    refine ⟨c, ?_⟩
    have hh : mHh = 1 := by
      rcases H.1 c.1 with ⟨a1, _⟩ | ⟨_, a2⟩
      · exact a1
      · exact absurd c.2 a2
    rw [if_neg (by rw [zif1]; exact fun q => q c)] at h1
    rw [if_neg (by rw [hh]; decide), if_neg (by have := c.1; grind)] at h2
    obtain ⟨a, ha, h1⟩ := zb_s h1
    obtain ⟨t, ht, h2⟩ := zb_s h2
    obtain ⟨b, hb, h2⟩ := zb_s h2
    have tr := zTrH hN ht
    obtain ⟨C, -⟩ := H.2.2 c.1 c.2
    have pe := zPassEq (wd := rwd) T0 (zRN_1 R) (Or.inl rfl) (zCh_c C tr) ha hb
    have ex : x = a := by
      obtain ⟨a1, a2, a3, a4⟩ := a
      rcases pe.2.2.2 with ⟨w, _⟩ | ⟨w, _⟩
      · dsimp only at w h1
        rw [if_neg (by rw [w]; decide)] at h1
        rw [← Option.some.inj h1, w]
      · dsimp only at w h1
        rw [if_pos w] at h1
        rw [← Option.some.inj h1, w]
    rw [ex, ← Option.some.inj h2]
    exact ⟨pe, tr⟩
  · left
    refine ⟨c, ?_⟩
    rw [if_pos (by rw [zif1]; exact c)] at h1
    have hy : y.1 = 0 := by
      by_cases d : mHh = 0
      · rw [if_pos d] at h2
        rw [← Option.some.inj h2]
      · rw [if_neg d] at h2
        have z : cN = 0 := by
          by_cases z : 0 < cN
          · rcases H.1 z with ⟨_, a2⟩ | ⟨a1, _⟩
            · exact absurd ⟨z, a2⟩ c
            · exact absurd a1 d
          · have := hN.2.1
            grind
        rw [if_pos z] at h2
        rw [← Option.some.inj h2]
    exact ⟨by rw [← Option.some.inj h1], hy⟩
theorem zeq_chosen {cF cc cN inp gcl mHh : Int32} {nF nN stp mst prc al made amt op fx jn lets gof gfx hand mF mN mCst mNF mNN mS mM mC mW mO m1 m2 mX mG mH : Nat → Int32} {mA mB : Nat → Int64} {p1 x y : Int32} (T : zTN cF cc cN inp nF nN stp mst prc al made amt op fx jn lets mF mN mNF mNN mS mM mC mW mCst mO m1 m2 mX mG mA mB) (H : zHN cN cF gcl mHh gof gfx hand mH) (h1 : fn_X11_chosen p1 cN gcl gof hand = some x) (h2 : fn_X12_chosen p1 mHh mN mH = some y) : x = y := by
  obtain ⟨hF, ⟨n1, n2, n3⟩, hC, hz, hp, hI, hf, hn, hg⟩ := T
  unfold fn_X11_chosen at h1
  unfold fn_X12_chosen at h2
  rw [zHasC n2, zb_some, zHasN, zb_some] at h1
  rw [zIsNum (by rw [n1]; exact n2), zb_some, n1] at h2
  by_cases d : 0 ≤ p1 ∧ p1 < cN
  · have c0 : 0 < cN := by grind
    rw [if_neg (show ¬ (if 0 ≤ p1 ∧ p1 < cN then (1 : Int32) else 0) = 0 by rw [zif1]; exact fun q => q d)] at h1 h2
    rcases H.1 c0 with ⟨a1, a2⟩ | ⟨a1, a2⟩
    · obtain ⟨C, -⟩ := H.2.2 c0 a2
      rw [if_neg (by rw [zif1]; exact fun q => q ⟨c0, a2⟩), zFmtOf n3 C d, zb_some] at h1
      rw [if_neg (by rw [a1]; decide)] at h2
      obtain ⟨-, h2⟩ := zg_s h2
      rw [← Option.some.inj h1, ← Option.some.inj h2]
    · rw [if_pos (by rw [zif1]; exact fun q => a2 q.2)] at h1
      rw [if_pos a1] at h2
      rw [← Option.some.inj h1, ← Option.some.inj h2]
  · rw [if_pos (show (if 0 ≤ p1 ∧ p1 < cN then (1 : Int32) else 0) = 0 by rw [zif1]; exact d)] at h1 h2
    have e1 : x = (-1) := by
      by_cases c : (if 0 < cN ∧ gcl = 0 then (1 : Int32) else 0) = 0
      · rw [if_pos c] at h1; exact (Option.some.inj h1).symm
      · rw [if_neg c] at h1; exact (Option.some.inj h1).symm
    have e2 : y = (-1) := by
      by_cases c : mHh = 0
      · rw [if_pos c] at h2; exact (Option.some.inj h2).symm
      · rw [if_neg c] at h2; exact (Option.some.inj h2).symm
    rw [e1, e2]
theorem zeq_cost {cF cc cN inp gcl mHh : Int32} {nF nN stp mst prc al made amt op fx jn lets gof gfx hand mF mN mCst mNF mNN mS mM mC mW mO m1 m2 mX mG mH mTr : Nat → Int32} {mA mB : Nat → Int64} {x : Int32} {y : Int32 × (Nat → Int32)} (T : zTN cF cc cN inp nF nN stp mst prc al made amt op fx jn lets mF mN mNF mNN mS mM mC mW mCst mO m1 m2 mX mG mA mB) (H : zHN cN cF gcl mHh gof gfx hand mH) (h1 : fn_X11_cost cF cc cN gcl made gof hand prc = some x) (h2 : fn_X12_cost mHh mN mH mTr mCst m1 m2 mC = some y) : x = y.1 := by
  have hN := T.2.1
  unfold fn_X11_cost at h1
  unfold fn_X12_cost at h2
  rw [zHasC hN.2.1, zb_some] at h1
  rw [zIsTh ⟨hN.1, hN.2.1⟩ H, zb_some] at h2
  by_cases c : 0 < cN ∧ gcl = 0
  · rw [if_neg (by rw [zif1]; exact fun q => q c)] at h1 h2
    obtain ⟨a, ha, h1⟩ := zb_s h1
    obtain ⟨t, ht, h2⟩ := zb_s h2
    obtain ⟨b, hb, h2⟩ := zb_s h2
    obtain ⟨C, -⟩ := H.2.2 c.1 c.2
    rw [← Option.some.inj h1, ← Option.some.inj h2]
    exact zPriceEq T (zCh_c C (zTrH hN ht)) ha hb
  · rw [if_pos (by rw [zif1]; exact c)] at h1 h2
    rw [← Option.some.inj h1, ← Option.some.inj h2]
theorem zeq_casts {cF cc cN inp gcl mHh : Int32} {nF nN stp mst prc al made amt op fx jn lets gof gfx hand mF mN mCst mNF mNN mS mM mC mW mO m1 m2 mX mG mH mTr : Nat → Int32} {mA mB : Nat → Int64} {x : Int32} {y : Int32 × (Nat → Int32)} (T : zTN cF cc cN inp nF nN stp mst prc al made amt op fx jn lets mF mN mNF mNN mS mM mC mW mCst mO m1 m2 mX mG mA mB) (H : zHN cN cF gcl mHh gof gfx hand mH) (h1 : fn_X11_casts cN gcl made gof hand = some x) (h2 : fn_X12_casts mHh mN mH mTr m1 m2 = some y) : x = y.1 := by
  have hN := T.2.1
  unfold fn_X11_casts at h1
  unfold fn_X12_casts at h2
  rw [zHasC hN.2.1, zb_some] at h1
  rw [zIsTh ⟨hN.1, hN.2.1⟩ H, zb_some] at h2
  by_cases c : 0 < cN ∧ gcl = 0
  · rw [if_neg (by rw [zif1]; exact fun q => q c)] at h1 h2
    obtain ⟨a, ha, h1⟩ := zb_s h1
    obtain ⟨t, ht, h2⟩ := zb_s h2
    obtain ⟨b, hb, h2⟩ := zb_s h2
    obtain ⟨C, -⟩ := H.2.2 c.1 c.2
    rw [← Option.some.inj h1, ← Option.some.inj h2]
    exact zCastsEq T (zCh_c C (zTrH hN ht)) ha hb
  · rw [if_pos (by rw [zif1]; exact c)] at h1 h2
    rw [← Option.some.inj h1, ← Option.some.inj h2]
/-- what the reference says by handPasses, where there is a CHOICE -/
theorem zHPM {cF cc cN inp gcl mHh mFa mFw : Int32} {nF nN stp mst prc al made amt op fx jn lets gof gfx rwd hand mF mN mCst mNF mNN mS mM mC mW mO m1 m2 mX mG mH mTr : Nat → Int32} {rlo rhi mA mB mLe mGe mEr : Nat → Int64} {mWb : Int64} {fa rs : Int32} {er0 : Nat → Int64} {a : Int32 × Int32 × Int32 × (Nat → Int64)} {y : Int32 × Int32 × Int32 × Int32 × (Nat → Int32) × (Nat → Int64) × (Nat → Int64) × (Nat → Int64)} (T : zTN cF cc cN inp nF nN stp mst prc al made amt op fx jn lets mF mN mNF mNN mS mM mC mW mCst mO m1 m2 mX mG mA mB) (R : zRN cN (-1) 0 op made amt rwd rlo rhi) (H : zHN cN cF gcl mHh gof gfx hand mH) (c : 0 < cN ∧ gcl = 0) (h1 : fn_X7_reckon cF cN gof hand stp op made er0 amt rlo rhi mst al = some a) (h2 : fn_X12_handPasses mWb mHh mFa mFw mN mH mTr mO m1 m2 mLe mA mB mGe mS mEr mM mW = some y) : zPE cN rlo rhi a (y.1, y.2.2.1, y.2.2.2.1, y.2.2.2.2.2.1, y.2.2.2.2.2.2.1, y.2.2.2.2.2.2.2) := by
  have hN := T.2.1
  unfold fn_X12_handPasses at h2
  rw [zn01.1, hN.1] at h2
  have hh : mHh = 1 := by
    rcases H.1 c.1 with ⟨a1, _⟩ | ⟨_, a2⟩
    · exact a1
    · exact absurd c.2 a2
  rw [if_neg (by rw [hh]; decide), if_neg (by have := c.1; grind)] at h2
  obtain ⟨t, ht, h2⟩ := zb_s h2
  obtain ⟨b, hb, h2⟩ := zb_s h2
  obtain ⟨C, -⟩ := H.2.2 c.1 c.2
  rw [← Option.some.inj h2]
  exact zPassEq (wd := rwd) T (zRN_1 R) (Or.inl rfl) (zCh_c C (zTrH hN ht)) h1 hb
theorem zeq_fails {cF cc cN inp gcl mHh mWn mFa mFw : Int32} {nF nN stp mst prc al made amt op fx jn lets gof gfx rwd hand mF mN mCst mNF mNN mS mM mC mW mO m1 m2 mX mG mH mTr : Nat → Int32} {rlo rhi mA mB mLe mGe mEr : Nat → Int64} {mWb : Int64} {fa rs : Int32} {er0 : Nat → Int64} {x : Int32 × Int32 × Int32 × (Nat → Int64)} {y : Int32 × Int32 × Int32 × Int32 × (Nat → Int32) × (Nat → Int64) × (Nat → Int64) × (Nat → Int64)} (T : zTN cF cc cN inp nF nN stp mst prc al made amt op fx jn lets mF mN mNF mNN mS mM mC mW mCst mO m1 m2 mX mG mA mB) (R : zRN cN (-1) 0 op made amt rwd rlo rhi) (H : zHN cN cF gcl mHh gof gfx hand mH) (h1 : fn_X11_fails cF cN gcl fa rs gof hand stp op made er0 amt rlo rhi mst al = some x) (h2 : fn_X12_fails mWn mWb mHh mFa mFw mN mH mTr mO m1 m2 mLe mA mB mGe mS mEr mM mW = some y) : x.1 = y.1 := by
  have hN := T.2.1
  unfold fn_X11_fails at h1
  unfold fn_X12_fails at h2
  rw [zHasC hN.2.1, zb_some] at h1
  rw [zIsTh ⟨hN.1, hN.2.1⟩ H, zb_some] at h2
  by_cases c : 0 < cN ∧ gcl = 0
  · rw [if_neg (by rw [zif1]; exact fun q => q c)] at h1 h2
    obtain ⟨a, ha, h1⟩ := zb_s h1
    obtain ⟨b, hb, h2⟩ := zb_s h2
    obtain ⟨p1, p2, p3, p4⟩ := zHPM (fa := fa) (rs := rs) T R H c ha hb
    dsimp only at p1 p2 p3
    rw [← Option.some.inj h1]
    rcases p4 with ⟨w1, w2, _⟩ | ⟨w1, _⟩
    · rw [if_neg (by rw [← p1, w1]; decide)] at h2
      rw [← Option.some.inj h2]; exact w2
    · rw [if_pos (p1.symm.trans w1)] at h2
      rw [← Option.some.inj h2]; exact p2
  · rw [if_pos (by rw [zif1]; exact c)] at h1 h2
    rw [← Option.some.inj h1, ← Option.some.inj h2]
theorem zeq_why {cF cc cN inp gcl mHh mWn mFa mFw : Int32} {nF nN stp mst prc al made amt op fx jn lets gof gfx rwd hand mF mN mCst mNF mNN mS mM mC mW mO m1 m2 mX mG mH mTr : Nat → Int32} {rlo rhi mA mB mLe mGe mEr : Nat → Int64} {mWb : Int64} {fa rs : Int32} {er0 : Nat → Int64} {x : Int32 × Int32 × Int32 × (Nat → Int64)} {y : Int32 × Int32 × Int32 × Int32 × (Nat → Int32) × (Nat → Int64) × (Nat → Int64) × (Nat → Int64)} (T : zTN cF cc cN inp nF nN stp mst prc al made amt op fx jn lets mF mN mNF mNN mS mM mC mW mCst mO m1 m2 mX mG mA mB) (R : zRN cN (-1) 0 op made amt rwd rlo rhi) (H : zHN cN cF gcl mHh gof gfx hand mH) (h1 : fn_X11_why cF cN gcl fa rs gof hand stp op made er0 amt rlo rhi mst al = some x) (h2 : fn_X12_why mWn mWb mHh mFa mFw mN mH mTr mO m1 m2 mLe mA mB mGe mS mEr mM mW = some y) : x.1 = y.1 := by
  have hN := T.2.1
  unfold fn_X11_why at h1
  unfold fn_X12_why at h2
  rw [zHasC hN.2.1, zb_some] at h1
  rw [zIsTh ⟨hN.1, hN.2.1⟩ H, zb_some] at h2
  by_cases c : 0 < cN ∧ gcl = 0
  · rw [if_neg (by rw [zif1]; exact fun q => q c)] at h1 h2
    obtain ⟨a, ha, h1⟩ := zb_s h1
    obtain ⟨b, hb, h2⟩ := zb_s h2
    obtain ⟨p1, p2, p3, p4⟩ := zHPM (fa := fa) (rs := rs) T R H c ha hb
    dsimp only at p1 p2 p3
    rw [← Option.some.inj h1]
    rcases p4 with ⟨w1, _, w2, _⟩ | ⟨w1, _⟩
    · rw [if_neg (by rw [← p1, w1]; decide)] at h2
      rw [← Option.some.inj h2]; exact w2
    · rw [if_pos (p1.symm.trans w1)] at h2
      rw [← Option.some.inj h2]; exact p3
  · rw [if_pos (by rw [zif1]; exact c)] at h1 h2
    rw [← Option.some.inj h1, ← Option.some.inj h2]
theorem zeq_error {cF cc cN inp gcl mHh mWn mFa mFw : Int32} {nF nN stp mst prc al made amt op fx jn lets gof gfx rwd hand mF mN mCst mNF mNN mS mM mC mW mO m1 m2 mX mG mH mTr : Nat → Int32} {rlo rhi mA mB mLe mGe mEr : Nat → Int64} {mWb : Int64} {p1 fa rs : Int32} {er0 : Nat → Int64} {x : Int64 × Int32 × Int32 × (Nat → Int64)} {y : Int64 × Int32 × Int32 × Int32 × (Nat → Int32) × (Nat → Int64) × (Nat → Int64) × (Nat → Int64)} (T : zTN cF cc cN inp nF nN stp mst prc al made amt op fx jn lets mF mN mNF mNN mS mM mC mW mCst mO m1 m2 mX mG mA mB) (R : zRN cN (-1) 0 op made amt rwd rlo rhi) (H : zHN cN cF gcl mHh gof gfx hand mH) (h1 : fn_X11_error p1 cF cN gcl fa rs gof hand stp op made er0 amt rlo rhi mst al = some x) (h2 : fn_X12_error p1 mWn mWb mHh mFa mFw mN mH mTr mO m1 m2 mLe mA mB mGe mS mEr mM mW = some y) : x.1 = y.1 := by
  have hN := T.2.1
  unfold fn_X11_error at h1
  unfold fn_X12_error at h2
  rw [zHasC hN.2.1, zb_some, zHasN, zb_some] at h1
  rw [zIsTh ⟨hN.1, hN.2.1⟩ H, zb_some, zIsNum (by rw [hN.1]; exact hN.2.1), zb_some, hN.1] at h2
  by_cases c : 0 < cN ∧ gcl = 0
  · rw [if_neg (show ¬ (if 0 < cN ∧ gcl = 0 then (1 : Int32) else 0) = 0 by rw [zif1]; exact fun q => q c)] at h1 h2
    by_cases d : 0 ≤ p1 ∧ p1 < cN
    · rw [if_neg (by rw [zif1]; exact fun q => q d)] at h1 h2
      obtain ⟨a, ha, h1⟩ := zb_s h1
      obtain ⟨b, hb, h2⟩ := zb_s h2
      obtain ⟨e1, e2, e3, e4⟩ := zHPM (fa := fa) (rs := rs) T R H c ha hb
      dsimp only at e1 e2 e3
      rcases e4 with ⟨w1, _, _, w2⟩ | ⟨w1, _, _, _, w2⟩
      · rw [if_neg (by rw [w1]; decide)] at h1
        rw [if_neg (by rw [← e1, w1]; decide)] at h2
        obtain ⟨-, h1⟩ := zg_s h1
        obtain ⟨-, h2⟩ := zg_s h2
        rw [← Option.some.inj h1, ← Option.some.inj h2]
        exact (w2 p1 d.1 d.2).1
      · rw [if_pos w1] at h1
        rw [if_pos (e1.symm.trans w1), ← e2] at h2
        by_cases f : a.2.1 < p1
        · rw [if_pos f] at h1 h2
          rw [← Option.some.inj h1, ← Option.some.inj h2]
        · rw [if_neg f] at h1 h2
          obtain ⟨-, h1⟩ := zg_s h1
          obtain ⟨-, h2⟩ := zg_s h2
          rw [← Option.some.inj h1, ← Option.some.inj h2]
          exact w2 p1 d.1 (by grind)
    · rw [if_pos (by rw [zif1]; exact d)] at h1 h2
      rw [← Option.some.inj h1, ← Option.some.inj h2]
  · rw [if_pos (show (if 0 < cN ∧ gcl = 0 then (1 : Int32) else 0) = 0 by rw [zif1]; exact c)] at h1 h2
    rw [← Option.some.inj h1, ← Option.some.inj h2]
theorem zIsAnsJ {p cN : Int32} {al : Nat → Int32} (hN : cN ≤ 14) : fn_X9_isAnswer p cN al = some (if (0 ≤ p ∧ p < cN) ∧ ¬ al p.toNatClampNeg = (-1) then 1 else 0) := by
  by_cases d : 0 ≤ p ∧ p < cN
  · rw [zIsAns hN d]
    by_cases e : al p.toNatClampNeg = (-1)
    · rw [if_pos e, if_neg (fun q => q.2 e)]
    · rw [if_neg e, if_pos ⟨d, e⟩]
  · unfold fn_X9_isAnswer
    rw [zHasN, zb_some, if_pos (by rw [zif1]; exact d), if_neg (fun q => d q.1)]
theorem zIsAnsM {cF cc cN inp : Int32} {nF nN stp mst prc al made amt op fx jn lets mF mN mCst mNF mNN mS mM mC mW mO m1 m2 mX mG : Nat → Int32} {mA mB : Nat → Int64} {p1 x : Int32} (T : zTN cF cc cN inp nF nN stp mst prc al made amt op fx jn lets mF mN mNF mNN mS mM mC mW mCst mO m1 m2 mX mG mA mB) (h : fn_X12_isAnswer p1 mN mW = some x) : x = if (0 ≤ p1 ∧ p1 < cN) ∧ ¬ al p1.toNatClampNeg = (-1) then 1 else 0 := by
  obtain ⟨hF, ⟨n1, n2, n3⟩, hC, hz, hp, hI, hf, hn, hg⟩ := T
  unfold fn_X12_isAnswer at h
  rw [zIsNum (by rw [n1]; exact n2), zb_some, n1] at h
  by_cases d : 0 ≤ p1 ∧ p1 < cN
  · rw [if_neg (by rw [zif1]; exact fun q => q d)] at h
    obtain ⟨-, h⟩ := zg_s h
    rw [← (hn p1 d.1 d.2).2.2.2.1] at h
    by_cases e : al p1.toNatClampNeg = (-1)
    · rw [if_pos e] at h
      rw [if_neg (fun q => q.2 e)]; exact (Option.some.inj h).symm
    · rw [if_neg e] at h
      rw [if_pos ⟨d, e⟩]; exact (Option.some.inj h).symm
  · rw [if_pos (by rw [zif1]; exact d)] at h
    rw [if_neg (fun q => d q.1)]; exact (Option.some.inj h).symm
theorem zeq_slack {cF cc cN inp gcl mHh mWn mFa mFw : Int32} {nF nN stp mst prc al made amt op fx jn lets gof gfx rwd hand mF mN mCst mNF mNN mS mM mC mW mO m1 m2 mX mG mH mTr : Nat → Int32} {rlo rhi mA mB mLe mGe mEr : Nat → Int64} {mWb : Int64} {p1 fa rs : Int32} {er0 : Nat → Int64} {x : Int64 × Int32 × Int32 × (Nat → Int64)} {y : Int64 × Int32 × Int32 × Int32 × (Nat → Int32) × (Nat → Int64) × (Nat → Int64) × (Nat → Int64)} (T : zTN cF cc cN inp nF nN stp mst prc al made amt op fx jn lets mF mN mNF mNN mS mM mC mW mCst mO m1 m2 mX mG mA mB) (R : zRN cN (-1) 0 op made amt rwd rlo rhi) (H : zHN cN cF gcl mHh gof gfx hand mH) (h1 : fn_X11_slack p1 cF cN al gcl fa rs gof hand stp op made er0 amt rlo rhi mst = some x) (h2 : fn_X12_slack p1 mWn mWb mHh mFa mFw mN mW mH mTr mO m1 m2 mLe mA mB mGe mS mEr mM = some y) : x.1 = y.1 := by
  have hN := T.2.1
  unfold fn_X11_slack at h1
  unfold fn_X12_slack at h2
  rw [zIsAnsJ hN.2.2, zb_some] at h1
  obtain ⟨w, hw, h2⟩ := zb_s h2
  rw [zIsAnsM T hw] at h2
  by_cases d : (0 ≤ p1 ∧ p1 < cN) ∧ ¬ al p1.toNatClampNeg = (-1)
  · rw [if_neg (by rw [zif1]; exact fun q => q d)] at h1 h2
    obtain ⟨a, ha, h1⟩ := zb_s h1
    obtain ⟨b, hb, h2⟩ := zb_s h2
    rcases zHandP T R H ha hb with ⟨_, z1, z2⟩ | ⟨c, ⟨e1, e2, e3, e4⟩, _⟩
    · rw [if_pos z1] at h1
      rw [if_pos z2] at h2
      rw [← Option.some.inj h1, ← Option.some.inj h2]
    · dsimp only at e1 e2 e3
      rcases e4 with ⟨w1, _, _, w2⟩ | ⟨w1, _⟩
      · rw [if_neg (by rw [w1]; decide)] at h1
        rw [if_neg (by rw [← e1, w1]; decide)] at h2
        obtain ⟨-, h1⟩ := zg_s h1
        obtain ⟨-, h2⟩ := zg_s h2
        obtain ⟨-, h2⟩ := zg_s h2
        rw [← Option.some.inj h1, ← Option.some.inj h2]
        show (al p1.toNatClampNeg).toInt64 - a.2.2.2 p1.toNatClampNeg = (mW p1.toNatClampNeg).toInt64 - b.2.2.2.2.2.2.2 p1.toNatClampNeg
        obtain ⟨hF, _, hC, hz, hp, hI, hf, hn, hg⟩ := T
        rw [(hn p1 d.1.1 d.1.2).2.2.2.1]
        have := (w2 p1 d.1.1 d.1.2).1
        dsimp only at this
        rw [this]
      · rw [if_pos w1] at h1
        rw [if_pos (e1.symm.trans w1)] at h2
        rw [← Option.some.inj h1, ← Option.some.inj h2]
  · rw [if_pos (by rw [zif1]; exact d)] at h1 h2
    rw [← Option.some.inj h1, ← Option.some.inj h2]
/-! choose, blame, certificate, status -/
theorem zref {k : Int32} {f : Nat → Int32} {x : Int32 × (Nat → Int32)} (hk : 0 ≤ k ∧ k < 5) (h : fn_X11_refuse k f = some x) : x = (-1, upd f k.toNatClampNeg (f k.toNatClampNeg + 1)) := by
  unfold fn_X11_refuse at h
  rw [if_neg (by grind), if_neg (by grind)] at h
  obtain ⟨-, h⟩ := zg_s h
  exact (Option.some.inj h).symm
theorem zrefM {k : Int32} {f : Nat → Int32} {x : Int32 × (Nat → Int32)} (h : fn_X12_refuses k f = some x) : x = (-1, upd f k.toNatClampNeg (f k.toNatClampNeg + 1)) := by
  unfold fn_X12_refuses at h
  obtain ⟨-, h⟩ := zg_s h
  exact (Option.some.inj h).symm
theorem zrefB {k : Int32} {f : Nat → Int32} {x : Int32 × (Nat → Int32)} (h : fn_X12_isRefused k f = some x) : x = (0, upd f k.toNatClampNeg (f k.toNatClampNeg + 1)) := by
  unfold fn_X12_isRefused at h
  obtain ⟨-, h⟩ := zg_s h
  exact (Option.some.inj h).symm
theorem zeq_status {mRf rf : Nat → Int32} {p1 x y : Int32} (e : rf = mRf) (h1 : fn_X11_status p1 rf = some x) (h2 : fn_X12_status p1 mRf = some y) : x = y := by
  subst e
  unfold fn_X11_status at h1
  unfold fn_X12_status at h2
  have hin : p1.toInt64 ≤ (4 : Int64) ↔ p1 ≤ 4 := by rw [show (4 : Int64) = (4 : Int32).toInt64 by decide +kernel, z64_le]
  simp only [zIsIn, zb_some, z64_ge0, hin] at h2
  by_cases c : 0 ≤ p1 ∧ p1 ≤ 4
  · rw [if_neg (by rw [zif1]; exact fun q => q c)] at h2
    rw [if_neg (by grind), if_neg (by grind)] at h1
    obtain ⟨-, h1⟩ := zg_s h1
    obtain ⟨-, h2⟩ := zg_s h2
    rw [← Option.some.inj h1, ← Option.some.inj h2]
  · rw [if_pos (by rw [zif1]; exact c)] at h2
    have e1 : x = (-1) := by
      by_cases d : p1 < 0
      · rw [if_pos d] at h1; exact (Option.some.inj h1).symm
      · rw [if_neg d, if_pos (by grind)] at h1; exact (Option.some.inj h1).symm
    rw [e1, ← Option.some.inj h2]
/-- a NUMBER whose GROUP is FREE, in both -/
theorem zFrJ {cF cc cN inp gc gfr gcl : Int32} {nF nN stp mst prc al made amt op fx jn lets gof gfx gld mF mN mCst mNF mNN mS mM mC mW mO m1 m2 mX mG : Nat → Int32} {mA mB : Nat → Int64} {p x : Int32} (T : zTN cF cc cN inp nF nN stp mst prc al made amt op fx jn lets mF mN mNF mNN mS mM mC mW mCst mO m1 m2 mX mG mA mB) (G : zGp cN gc gfr gcl gof gfx gld fx mG) (h : fn_X9_isFree p cN gc gof gfx = some x) : x = 1 ∧ (0 ≤ p ∧ p < cN) ∧ gfx (gof p.toNatClampNeg).toNatClampNeg = (-1) ∨ x = 0 ∧ ¬ ((0 ≤ p ∧ p < cN) ∧ gfx (gof p.toNatClampNeg).toNatClampNeg = (-1)) := by
  obtain ⟨hF, ⟨n1, n2, n3⟩, hC, hz, hp, hI, hf, hn, hg⟩ := T
  unfold fn_X9_isFree at h
  rw [zHasN, zb_some] at h
  by_cases d : 0 ≤ p ∧ p < cN
  · rw [if_neg (by rw [zif1]; exact fun q => q d)] at h
    obtain ⟨-, h⟩ := zg_s h
    obtain ⟨w, hw, h⟩ := zb_s h
    unfold fn_X2_isFree at hw
    obtain ⟨l1, l2, l3⟩ := hg.1 p d.1 d.2
    have e := G.1.2.1 p d.1 d.2
    have b0 := (zRk_b (G := mG) (p := mG p.toNatClampNeg) l1 (by grind)).1
    have b1 := zRk_lt (G := mG) l1 (show mG p.toNatClampNeg < cN by grind) n3 l3
    rw [← G.1.1] at b1
    rw [← e] at b0 b1
    rw [if_neg (by grind), if_neg (by grind)] at hw
    obtain ⟨-, hw⟩ := zg_s hw
    by_cases c : gfx (gof p.toNatClampNeg).toNatClampNeg = (-1)
    · rw [if_pos c] at hw
      rw [if_neg (by rw [← Option.some.inj hw]; decide)] at h
      exact Or.inl ⟨(Option.some.inj h).symm, d, c⟩
    · rw [if_neg c] at hw
      rw [if_pos (Option.some.inj hw).symm] at h
      exact Or.inr ⟨(Option.some.inj h).symm, fun q => c q.2⟩
  · rw [if_pos (by rw [zif1]; exact d)] at h
    exact Or.inr ⟨(Option.some.inj h).symm, fun q => d q.1⟩
theorem zFrM {cF cc cN inp gc gfr gcl : Int32} {nF nN stp mst prc al made amt op fx jn lets gof gfx gld mF mN mCst mNF mNN mS mM mC mW mO m1 m2 mX mG : Nat → Int32} {mA mB : Nat → Int64} {p x : Int32} (T : zTN cF cc cN inp nF nN stp mst prc al made amt op fx jn lets mF mN mNF mNN mS mM mC mW mCst mO m1 m2 mX mG mA mB) (G : zGp cN gc gfr gcl gof gfx gld fx mG) (d : 0 ≤ p ∧ p < cN) (h : fn_X12_isFree (mG p.toNatClampNeg) mN mG mX = some x) : x = 1 ∧ gfx (gof p.toNatClampNeg).toNatClampNeg = (-1) ∨ x = 0 ∧ ¬ gfx (gof p.toNatClampNeg).toNatClampNeg = (-1) := by
  have T0 := T
  obtain ⟨hF, hN, hC, hz, hp, hI, hf, hn, hg⟩ := T
  have e : gfx (gof p.toNatClampNeg).toNatClampNeg = (-1) ↔ zFree cN mG mX (mG p.toNatClampNeg) := (zFxS_f (zGp_fx hN.2.2 hg G d)).trans (zFree_c (fun i i0 i1 => (hn i i0 i1).2.2.1))
  rw [e]
  exact zIsFree hN h
set_option maxHeartbeats 4000000 in
theorem zeq_choose {cF cc cN inp gc gfr gcl mHh : Int32} {nF nN stp mst prc al made amt op fx jn lets gof gfx gld hand mF mN mCst mNF mNN mS mM mC mW mO m1 m2 mX mG mH mRf rf : Nat → Int32} {mA mB : Nat → Int64} {p1 p2 : Int32} {x : Int32 × (Nat → Int32) × (Nat → Int32)} {y : Int32 × (Nat → Int32) × (Nat → Int32)} (T : zTN cF cc cN inp nF nN stp mst prc al made amt op fx jn lets mF mN mNF mNN mS mM mC mW mCst mO m1 m2 mX mG mA mB) (G : zGp cN gc gfr gcl gof gfx gld fx mG) (H : zHN cN cF gcl mHh gof gfx hand mH) (h1 : fn_X11_choose p1 p2 cF cN gc gcl rf gof gfx hand = some x) (h2 : fn_X12_choose p1 p2 mHh mRf mN mF mG mX mH = some y) : x.1 = y.1 ∧ zHN cN cF gcl mHh gof gfx x.2.2 y.2.2 ∧ (rf = mRf → x.2.1 = y.2.1) := by
  have T0 := T
  obtain ⟨⟨f1, f2, f3⟩, ⟨n1, n2, n3⟩, hC, hz, hp, hI, hf, hn, hg⟩ := T
  unfold fn_X11_choose at h1
  unfold fn_X12_choose at h2
  rw [zHasC n2, zb_some] at h1
  rw [zIsNum (by rw [n1]; exact n2), zb_some, n1] at h2
  rw [zHasF, zb_some] at h1
  rw [zIsFmt (by rw [f1]; exact f2), zb_some, f1] at h2
  -- refused in both
  have no : (∃ z, fn_X11_refuse 2 rf = some z ∧ x = (z.1, z.2, hand)) → (∃ z, fn_X12_refuses 2 mRf = some z ∧ y = (z.1, z.2, mH)) → x.1 = y.1 ∧ zHN cN cF gcl mHh gof gfx x.2.2 y.2.2 ∧ (rf = mRf → x.2.1 = y.2.1) := by
    intro ⟨z, z1, z2⟩ ⟨w, w1, w2⟩
    rw [zref (by decide) z1] at z2
    rw [zrefM w1] at w2
    rw [z2, w2]
    exact ⟨rfl, H, fun q => by show upd rf _ _ = upd mRf _ _; rw [q]⟩
  have r1 : ∀ {k : Int32 × (Nat → Int32) → Option (Int32 × (Nat → Int32) × (Nat → Int32))}, k = (fun o => some (o.1, o.2, hand)) → zb (fn_X11_refuse 2 rf) k = some x → ∃ z, fn_X11_refuse 2 rf = some z ∧ x = (z.1, z.2, hand) := by
    intro k hk q
    obtain ⟨z, z1, z2⟩ := zb_s q
    rw [hk] at z2
    exact ⟨z, z1, (Option.some.inj z2).symm⟩
  have r2 : ∀ {k : Int32 × (Nat → Int32) → Option (Int32 × (Nat → Int32) × (Nat → Int32))}, k = (fun o => some (o.1, o.2, mH)) → zb (fn_X12_refuses 2 mRf) k = some y → ∃ z, fn_X12_refuses 2 mRf = some z ∧ y = (z.1, z.2, mH) := by
    intro k hk q
    obtain ⟨z, z1, z2⟩ := zb_s q
    rw [hk] at z2
    exact ⟨z, z1, (Option.some.inj z2).symm⟩
  by_cases c : 0 < cN ∧ gcl = 0
  · have hh : mHh = 1 := by
      rcases H.1 c.1 with ⟨a1, _⟩ | ⟨_, a2⟩
      · exact a1
      · exact absurd c.2 a2
    rw [if_neg (show ¬ (if 0 < cN ∧ gcl = 0 then (1 : Int32) else 0) = 0 by rw [zif1]; exact fun q => q c)] at h1
    rw [if_neg (show ¬ mHh = 0 by rw [hh]; decide)] at h2
    by_cases d : 0 ≤ p2 ∧ p2 < cF
    · rw [if_neg (show ¬ (if 0 ≤ p2 ∧ p2 < cF then (1 : Int32) else 0) = 0 by rw [zif1]; exact fun q => q d)] at h1 h2
      obtain ⟨w, hw, h1⟩ := zb_s h1
      by_cases e : 0 ≤ p1 ∧ p1 < cN
      · rw [if_neg (show ¬ (if 0 ≤ p1 ∧ p1 < cN then (1 : Int32) else 0) = 0 by rw [zif1]; exact fun q => q e)] at h2
        obtain ⟨-, h2⟩ := zg_s h2
        obtain ⟨v, hv, h2⟩ := zb_s h2
        rcases zFrM T0 G e hv with ⟨v1, v2⟩ | ⟨v1, v2⟩
        · rcases zFrJ T0 G hw with ⟨w1, _, _⟩ | ⟨w1, w2⟩
          · rw [if_neg (by rw [w1]; decide)] at h1
            rw [if_neg (by rw [v1]; decide)] at h2
            obtain ⟨-, h1⟩ := zg_s h1
            obtain ⟨-, h1⟩ := zg_s h1
            obtain ⟨-, h2⟩ := zg_s h2
            obtain ⟨C, D⟩ := H.2.2 c.1 c.2
            obtain ⟨⟨c1, c2⟩, c3, c4, c5⟩ := C p1 e.1 e.2
            rw [← Option.some.inj h1]
            rw [zn01.1, n1] at h2
            have key : y.1 = mH p1.toNatClampNeg ∧ y.2.1 = mRf ∧ (∀ i : Int32, 0 ≤ i → i < cN → y.2.2 i.toNatClampNeg = if mG i.toNatClampNeg = mG p1.toNatClampNeg then p2 else mH i.toNatClampNeg) := by
              refine zl_ip (P := fun y : Int32 × (Nat → Int32) × (Nat → Int32) => y.1 = mH p1.toNatClampNeg ∧ y.2.1 = mRf ∧ (∀ i : Int32, 0 ≤ i → i < cN → y.2.2 i.toNatClampNeg = if mG i.toNatClampNeg = mG p1.toNatClampNeg then p2 else mH i.toNatClampNeg)) (fun s => 0 ≤ s.1 ∧ s.1 ≤ cN ∧ (∀ i : Int32, 0 ≤ i → i < s.1 → s.2 i.toNatClampNeg = if mG i.toNatClampNeg = mG p1.toNatClampNeg then p2 else mH i.toNatClampNeg) ∧ (∀ i : Int32, 0 ≤ i → s.1 ≤ i → s.2 i.toNatClampNeg = mH i.toNatClampNeg)) ?_ _ _ _ ?_ h2
              rotate_left
              · exact ⟨(show (0 : Int32) ≤ 0 by decide), n2, fun i i0 i1 => absurd i1 (by show ¬ i < 0; grind), fun _ _ _ => rfl⟩
              intro s back o ⟨H1, H2, H3, H4⟩ hb ho
              obtain ⟨k, row⟩ := s
              dsimp only at H1 H2 H3 H4 ho
              by_cases u : cN ≤ k
              · rw [if_pos u] at ho
                rw [← Option.some.inj ho]
                exact ⟨rfl, rfl, fun i i0 i1 => H3 i i0 (by grind)⟩
              · rw [if_neg u] at ho
                obtain ⟨-, ho⟩ := zg_s ho
                obtain ⟨-, ho⟩ := zg_s ho
                have nxt : ∀ v : Int32, v = (if mG k.toNatClampNeg = mG p1.toNatClampNeg then p2 else mH k.toNatClampNeg) → back (k + 1, upd row k.toNatClampNeg v) = some o → (o.1 = mH p1.toNatClampNeg ∧ o.2.1 = mRf ∧ (∀ i : Int32, 0 ≤ i → i < cN → o.2.2 i.toNatClampNeg = if mG i.toNatClampNeg = mG p1.toNatClampNeg then p2 else mH i.toNatClampNeg)) := by
                  intro v hv hbk
                  refine hb _ _ ?_ hbk
                  refine ⟨(show 0 ≤ k + 1 by grind), (show k + 1 ≤ cN by grind), fun i i0 i1 => ?_, fun i i0 i1 => ?_⟩
                  · have i1 : i < k + 1 := i1
                    show upd row k.toNatClampNeg v i.toNatClampNeg = _
                    rw [zup H1 i0]
                    by_cases q : i = k
                    · rw [if_pos q, hv, q]
                    · rw [if_neg q]; exact H3 i i0 (by grind)
                  · have i1 : k + 1 ≤ i := i1
                    show upd row k.toNatClampNeg v i.toNatClampNeg = _
                    rw [zup H1 i0, if_neg (by grind)]; exact H4 i i0 (by grind)
                by_cases t : mG k.toNatClampNeg = mG p1.toNatClampNeg
                · rw [if_pos t] at ho
                  obtain ⟨-, ho⟩ := zg_s ho
                  exact nxt p2 (by rw [if_pos t]) ho
                · rw [if_neg t] at ho
                  obtain ⟨-, ho⟩ := zg_s ho
                  exact nxt (row k.toNatClampNeg) (by rw [if_neg t]; exact H4 k H1 (by grind)) ho
            obtain ⟨y1, y2, y3⟩ := key
            refine ⟨?_, ⟨H.1, H.2.1, fun _ _ => ⟨fun i i0 i1 => ?_, fun i i0 i1 i2 => ?_⟩⟩, fun q => ?_⟩
            · rw [y1]; exact c3
            · obtain ⟨⟨a1, a2⟩, a3, a4, a5⟩ := C i i0 i1
              show (0 ≤ gof i.toNatClampNeg ∧ gof i.toNatClampNeg < 14) ∧ upd hand (gof p1.toNatClampNeg).toNatClampNeg p2 (gof i.toNatClampNeg).toNatClampNeg = y.2.2 i.toNatClampNeg ∧ 0 ≤ y.2.2 i.toNatClampNeg ∧ y.2.2 i.toNatClampNeg < cF
              have eq := zGp_eq n3 hg G ⟨i0, i1⟩ e
              rw [y3 i i0 i1, zup c1 a1]
              by_cases t : gof i.toNatClampNeg = gof p1.toNatClampNeg
              · rw [if_pos t, if_pos (eq.mp t)]
                exact ⟨⟨a1, a2⟩, rfl, d.1, d.2⟩
              · rw [if_neg t, if_neg (fun q => t (eq.mpr q))]
                exact ⟨⟨a1, a2⟩, a3, a4, a5⟩
            · obtain ⟨⟨a1, a2⟩, a3, a4, a5⟩ := C i i0 i1
              show upd hand (gof p1.toNatClampNeg).toNatClampNeg p2 (gof i.toNatClampNeg).toNatClampNeg = gfx (gof i.toNatClampNeg).toNatClampNeg
              rw [zup c1 a1, if_neg (fun t => i2 (by rw [t]; exact v2))]
              exact D i i0 i1 i2
            · show rf = y.2.1
              rw [y2]; exact q
          · exact absurd ⟨e, v2⟩ w2
        · rcases zFrJ T0 G hw with ⟨_, _, w2⟩ | ⟨w1, w2⟩
          · exact absurd w2 v2
          · rw [if_pos w1] at h1
            rw [if_pos v1] at h2
            exact no (r1 rfl h1) (r2 rfl h2)
      · rw [if_pos (show (if 0 ≤ p1 ∧ p1 < cN then (1 : Int32) else 0) = 0 by rw [zif1]; exact e)] at h2
        rcases zFrJ T0 G hw with ⟨_, w2, _⟩ | ⟨w1, w2⟩
        · exact absurd w2 e
        · rw [if_pos w1] at h1
          exact no (r1 rfl h1) (r2 rfl h2)
    · rw [if_pos (show (if 0 ≤ p2 ∧ p2 < cF then (1 : Int32) else 0) = 0 by rw [zif1]; exact d)] at h1 h2
      have h2' : ∃ z, fn_X12_refuses 2 mRf = some z ∧ y = (z.1, z.2, mH) := by
        by_cases e : (if 0 ≤ p1 ∧ p1 < cN then (1 : Int32) else 0) = 0
        · rw [if_pos e] at h2; exact r2 rfl h2
        · rw [if_neg e] at h2; exact r2 rfl h2
      exact no (r1 rfl h1) h2'
  · rw [if_pos (show (if 0 < cN ∧ gcl = 0 then (1 : Int32) else 0) = 0 by rw [zif1]; exact c)] at h1
    have h2' : ∃ z, fn_X12_refuses 2 mRf = some z ∧ y = (z.1, z.2, mH) := by
      by_cases d : mHh = 0
      · rw [if_pos d] at h2; exact r2 rfl h2
      · rw [if_neg d] at h2
        have z : cN = 0 := by
          by_cases z : 0 < cN
          · rcases H.1 z with ⟨_, a2⟩ | ⟨a1, _⟩
            · exact absurd ⟨z, a2⟩ c
            · exact absurd a1 d
          · grind
        have e : (if 0 ≤ p1 ∧ p1 < cN then (1 : Int32) else 0) = 0 := by rw [zif1]; intro q; grind
        rw [if_pos e] at h2
        exact r2 rfl h2
    exact no (r1 rfl h1) h2'
theorem zGofR {cN gc gfr gcl : Int32} {fx jn gof gfx gld mG : Nat → Int32} {j : Int32} (hN : cN ≤ 14) (hg : zG0 cN jn mG) (G : zGp cN gc gfr gcl gof gfx gld fx mG) (hj : 0 ≤ j ∧ j < cN) : 0 ≤ gof j.toNatClampNeg ∧ gof j.toNatClampNeg < 14 := by
  obtain ⟨l1, l2, l3⟩ := hg.1 j hj.1 hj.2
  have b := zRk_b (G := mG) (p := mG j.toNatClampNeg) l1 (by grind)
  rw [G.1.2.1 j hj.1 hj.2]
  exact ⟨b.1, by grind⟩
theorem zFillF {p gc : Int32} {ch gfx x : Nat → Int32} (hg : 0 ≤ gc ∧ gc ≤ 14) (h : fn_X2_fillFree p gc ch gfx = some x) : ∀ g : Int32, 0 ≤ g → g < gc → x g.toNatClampNeg = if gfx g.toNatClampNeg = (-1) then p else gfx g.toNatClampNeg := by
  unfold fn_X2_fillFree at h
  refine zl_ip (P := fun x : Nat → Int32 => ∀ g : Int32, 0 ≤ g → g < gc → x g.toNatClampNeg = if gfx g.toNatClampNeg = (-1) then p else gfx g.toNatClampNeg) (fun s => 0 ≤ s.1 ∧ s.1 ≤ gc ∧ ∀ g : Int32, 0 ≤ g → g < s.1 → s.2 g.toNatClampNeg = if gfx g.toNatClampNeg = (-1) then p else gfx g.toNatClampNeg) ?_ _ _ _ ?_ h
  rotate_left
  · exact ⟨(show (0 : Int32) ≤ 0 by decide), hg.1, fun g g0 g1 => absurd g1 (by show ¬ g < 0; grind)⟩
  intro s back o ⟨H1, H2, H3⟩ hb ho
  obtain ⟨k, row⟩ := s
  dsimp only at H1 H2 H3 ho
  by_cases c : gc ≤ k
  · rw [if_pos c] at ho
    rw [← Option.some.inj ho]
    exact fun g g0 g1 => H3 g g0 (by grind)
  · rw [if_neg c, if_neg (show ¬ 14 ≤ k by grind)] at ho
    obtain ⟨-, ho⟩ := zg_s ho
    have nxt : ∀ v : Int32, v = (if gfx k.toNatClampNeg = (-1) then p else gfx k.toNatClampNeg) → back (k + 1, upd row k.toNatClampNeg v) = some o → ∀ g : Int32, 0 ≤ g → g < gc → o g.toNatClampNeg = if gfx g.toNatClampNeg = (-1) then p else gfx g.toNatClampNeg := by
      intro v hv hbk
      refine hb _ _ ?_ hbk
      refine ⟨(show 0 ≤ k + 1 by grind), (show k + 1 ≤ gc by grind), fun g g0 g1 => ?_⟩
      have g1 : g < k + 1 := g1
      show upd row k.toNatClampNeg v g.toNatClampNeg = _
      rw [zup H1 g0]
      by_cases q : g = k
      · rw [if_pos q, hv, q]
      · rw [if_neg q]; exact H3 g g0 (by grind)
    by_cases d : gfx k.toNatClampNeg = (-1)
    · rw [if_pos d] at ho
      exact nxt p (by rw [if_pos d]) ho
    · rw [if_neg d] at ho
      exact nxt (gfx k.toNatClampNeg) (by rw [if_neg d]) ho
/-! blame, certificate -/
theorem zCopyC {f g x : Nat → Int32} (h : fn_X11_copyChoice f g = some x) : ∀ i : Int32, 0 ≤ i → i < 14 → x i.toNatClampNeg = f i.toNatClampNeg := by
  unfold fn_X11_copyChoice at h
  refine zl_ip (P := fun x : Nat → Int32 => ∀ i : Int32, 0 ≤ i → i < 14 → x i.toNatClampNeg = f i.toNatClampNeg) (fun s => 0 ≤ s.1 ∧ s.1 ≤ 14 ∧ ∀ i : Int32, 0 ≤ i → i < s.1 → s.2 i.toNatClampNeg = f i.toNatClampNeg) ?_ _ _ _ ?_ h
  rotate_left
  · exact ⟨(show (0 : Int32) ≤ 0 by decide), (show (0 : Int32) ≤ 14 by decide), fun i i0 i1 => absurd i1 (by show ¬ i < 0; grind)⟩
  intro s back o ⟨H1, H2, H3⟩ hb ho
  obtain ⟨k, row⟩ := s
  dsimp only at H1 H2 H3 ho
  by_cases c : 14 ≤ k
  · rw [if_pos c] at ho
    rw [← Option.some.inj ho]
    exact fun i i0 i1 => H3 i i0 (by grind)
  · rw [if_neg c, if_neg c, if_neg c] at ho
    obtain ⟨-, ho⟩ := zg_s ho
    refine hb _ _ ?_ ho
    refine ⟨(show 0 ≤ k + 1 by grind), (show k + 1 ≤ 14 by grind), fun i i0 i1 => ?_⟩
    have i1 : i < k + 1 := i1
    show upd row k.toNatClampNeg (f k.toNatClampNeg) i.toNatClampNeg = f i.toNatClampNeg
    rw [zup H1 i0]
    by_cases q : i = k
    · rw [if_pos q, q]
    · rw [if_neg q]; exact H3 i i0 (by grind)
theorem zFinest {cF cc cN inp : Int32} {nF nN stp mst prc al made amt op fx jn lets mF mN mCst mNF mNN mS mM mC mW mO m1 m2 mX mG : Nat → Int32} {mA mB : Nat → Int64} {x y : Int32} (T : zTN cF cc cN inp nF nN stp mst prc al made amt op fx jn lets mF mN mNF mNN mS mM mC mW mCst mO m1 m2 mX mG mA mB) (h0 : 0 < cF) (h1 : fn_X9_finestFormat cF stp = some x) (h2 : fn_X12_finest mF mS = some y) : x = y ∧ 0 ≤ x ∧ x < cF := by
  obtain ⟨⟨f1, f2, f3⟩, hN, hC, hz, hp, hI, hf, hn, hg⟩ := T
  unfold fn_X9_finestFormat at h1
  unfold fn_X12_finest at h2
  rw [zn01.1, f1] at h2
  refine zl_ip2 (P := fun x y => x = y ∧ 0 ≤ x ∧ x < cF) (fun s t => t = s ∧ 0 ≤ s.1 ∧ s.1 < cF ∧ 1 ≤ s.2 ∧ s.2 ≤ 4) ?_ _ _ _ _ _ _ ?_ h1 h2
  rotate_left
  · exact ⟨rfl, (show (0 : Int32) ≤ 0 by decide), h0, (show (1 : Int32) ≤ 1 by decide), (show (1 : Int32) ≤ 4 by decide)⟩
  intro s t k1 k2 o1 o2 ⟨R1, R2, R3, R4, R5⟩ hb ho1 ho2
  subst R1
  obtain ⟨b, k⟩ := t
  dsimp only at R2 R3 R4 R5 ho1 ho2
  by_cases d : cF ≤ k
  · rw [if_pos d] at ho1 ho2
    rw [← Option.some.inj ho1, ← Option.some.inj ho2]
    exact ⟨rfl, R2, R3⟩
  · rw [if_neg d] at ho1 ho2
    obtain ⟨-, ho1⟩ := zg_s ho1
    obtain ⟨-, ho1⟩ := zg_s ho1
    obtain ⟨-, ho2⟩ := zg_s ho2
    obtain ⟨-, ho2⟩ := zg_s ho2
    rw [← (hf b R2 R3).2.1, ← (hf k (by grind) (by grind)).2.1] at ho2
    by_cases e : stp b.toNatClampNeg ≤ stp k.toNatClampNeg
    · rw [if_pos e] at ho1 ho2
      refine hb _ _ _ _ ?_ ho1 ho2
      exact ⟨rfl, R2, R3, (show 1 ≤ k + 1 by grind), (show k + 1 ≤ 4 by grind)⟩
    · rw [if_neg e] at ho1 ho2
      refine hb _ _ _ _ ?_ ho1 ho2
      exact ⟨rfl, (show 0 ≤ k by grind), (show k < cF by grind), (show 1 ≤ k + 1 by grind), (show k + 1 ≤ 4 by grind)⟩
/-- one GROUP in another FORMAT, in both -/
theorem zCh_g {cF cc cN inp gc gfr gcl : Int32} {nF nN stp mst prc al made amt op fx jn lets gof gfx gld mF mN mCst mNF mNN mS mM mC mW mO m1 m2 mX mG : Nat → Int32} {mA mB : Nat → Int64} {p f : Int32} {ch ch' t t' : Nat → Int32} (T : zTN cF cc cN inp nF nN stp mst prc al made amt op fx jn lets mF mN mNF mNN mS mM mC mW mCst mO m1 m2 mX mG mA mB) (G : zGp cN gc gfr gcl gof gfx gld fx mG) (C : zCh cN cF gof ch t) (hp : 0 ≤ p ∧ p < cN) (hf : 0 ≤ f ∧ f < cF) (h1 : ∀ i : Int32, 0 ≤ i → i < 14 → ch' i.toNatClampNeg = if i = gof p.toNatClampNeg then f else ch i.toNatClampNeg) (h2 : ∀ i : Int32, 0 ≤ i → i < cN → t' i.toNatClampNeg = if mG i.toNatClampNeg = mG p.toNatClampNeg then f else t i.toNatClampNeg) : zCh cN cF gof ch' t' := by
  obtain ⟨hF, ⟨n1, n2, n3⟩, hC, hz, hp0, hI, hf0, hn, hg⟩ := T
  intro i i0 i1
  obtain ⟨⟨a1, a2⟩, a3, a4, a5⟩ := C i i0 i1
  have eq := zGp_eq n3 hg G ⟨i0, i1⟩ hp
  rw [h1 _ a1 a2, h2 i i0 i1]
  by_cases q : gof i.toNatClampNeg = gof p.toNatClampNeg
  · rw [if_pos q, if_pos (eq.mp q)]
    exact ⟨⟨a1, a2⟩, rfl, hf.1, hf.2⟩
  · rw [if_neg q, if_neg (fun w => q (eq.mpr w))]
    exact ⟨⟨a1, a2⟩, a3, a4, a5⟩
set_option maxHeartbeats 4000000 in
theorem zeq_blame {cF cc cN inp gc gfr gcl mHh mWn mFa mFw : Int32} {nF nN stp mst prc al made amt op fx jn lets gof gfx gld rwd hand mF mN mCst mNF mNN mS mM mC mW mO m1 m2 mX mG mH mTr : Nat → Int32} {rlo rhi mA mB mLe mGe mEr : Nat → Int64} {mWb : Int64} {p1 p2 fa rs fa2 rs2 : Int32} {oth : Nat → Int32} {er0 er2 : Nat → Int64} {x : Int64 × Int32 × Int32 × (Nat → Int64) × (Nat → Int32) × Int32 × Int32 × (Nat → Int64)} {y : Int64 × Int32 × Int32 × Int32 × (Nat → Int32) × (Nat → Int64) × (Nat → Int64) × (Nat → Int64)} (T : zTN cF cc cN inp nF nN stp mst prc al made amt op fx jn lets mF mN mNF mNN mS mM mC mW mCst mO m1 m2 mX mG mA mB) (G : zGp cN gc gfr gcl gof gfx gld fx mG) (R : zRN cN (-1) 0 op made amt rwd rlo rhi) (H : zHN cN cF gcl mHh gof gfx hand mH) (h1 : fn_X11_blame p1 p2 cF cN al gc gcl gof gfx fa rs hand stp op made er0 amt rlo rhi mst oth fa2 rs2 er2 = some x) (h2 : fn_X12_blame p1 p2 mWn mWb mHh mFa mFw mN mW mG mX mH mTr mO m1 m2 mLe mA mB mGe mS mEr mM mF = some y) : x.1 = y.1 := by
  have hN := T.2.1
  have T0 := T
  unfold fn_X11_blame at h1
  unfold fn_X12_blame at h2
  rw [zIsAnsJ hN.2.2, zb_some] at h1
  obtain ⟨w, hw, h2⟩ := zb_s h2
  rw [zIsAnsM T hw, zIsNum (by rw [hN.1]; exact hN.2.1), zb_some, hN.1] at h2
  by_cases d : (0 ≤ p1 ∧ p1 < cN) ∧ ¬ al p1.toNatClampNeg = (-1)
  · rw [if_neg (show ¬ (if (0 ≤ p1 ∧ p1 < cN) ∧ ¬ al p1.toNatClampNeg = (-1) then (1 : Int32) else 0) = 0 by rw [zif1]; exact fun q => q d)] at h1 h2
    obtain ⟨v, hv, h1⟩ := zb_s h1
    by_cases e : 0 ≤ p2 ∧ p2 < cN
    · rw [if_neg (show ¬ (if 0 ≤ p2 ∧ p2 < cN then (1 : Int32) else 0) = 0 by rw [zif1]; exact fun q => q e)] at h2
      obtain ⟨-, h2⟩ := zg_s h2
      obtain ⟨u, hu, h2⟩ := zb_s h2
      rcases zFrM T0 G e hu with ⟨u1, u2⟩ | ⟨u1, u2⟩
      · rcases zFrJ T0 G hv with ⟨v1, _, _⟩ | ⟨_, v2⟩
        · rw [if_neg (by rw [v1]; decide)] at h1
          rw [if_neg (by rw [u1]; decide)] at h2
          obtain ⟨a, ha, h1⟩ := zb_s h1
          obtain ⟨b, hb, h2⟩ := zb_s h2
          have wn : b.2.1 = (-1) := by
            unfold fn_X12_handPasses at hb
            by_cases z1 : mHh = 0
            · rw [if_pos z1] at hb; rw [← Option.some.inj hb]
            · rw [if_neg z1] at hb
              by_cases z2 : mN (0 : Int32).toNatClampNeg = 0
              · rw [if_pos z2] at hb; rw [← Option.some.inj hb]
              · rw [if_neg z2] at hb
                obtain ⟨_, _, hb⟩ := zb_s hb
                obtain ⟨_, _, hb⟩ := zb_s hb
                rw [← Option.some.inj hb]
          rcases zHandP T R H ha hb with ⟨_, z1, z2⟩ | ⟨c, ⟨e1, e2, e3, e4⟩, tr⟩
          · rw [if_pos z1] at h1
            rw [if_pos z2] at h2
            rw [← Option.some.inj h1, ← Option.some.inj h2]
          · dsimp only at e1 e2 e3
            rcases e4 with ⟨w1, _, _, w2⟩ | ⟨w1, _⟩
            · rw [if_neg (by rw [w1]; decide)] at h1
              rw [if_neg (by rw [← e1, w1]; decide)] at h2
              obtain ⟨cp, hcp, h1⟩ := zb_s h1
              obtain ⟨-, h1⟩ := zg_s h1
              obtain ⟨fi, hfi, h1⟩ := zb_s h1
              obtain ⟨-, h1⟩ := zg_s h1
              obtain ⟨rr, hrr, h1⟩ := zb_s h1
              obtain ⟨-, h2⟩ := zg_s h2
              obtain ⟨fm, hfm, h2⟩ := zb_s h2
              obtain ⟨tg, htg, h2⟩ := zb_s h2
              obtain ⟨pp, hpp, h2⟩ := zb_s h2
              have cF0 : 0 < cF := T0.2.2.2.2.1 c.1
              obtain ⟨q1, q2, q3⟩ := zFinest T0 cF0 hfi hfm
              rw [← q1] at htg
              obtain ⟨C, -⟩ := H.2.2 c.1 c.2
              have cc := zCopyC hcp
              obtain ⟨⟨g1, g2⟩, -⟩ := C p2 e.1 e.2
              have C2 := zCh_g T0 G (zCh_c C tr) e ⟨q2, q3⟩ (ch' := upd cp (gof p2.toNatClampNeg).toNatClampNeg fi) (fun i i0 i1 => by rw [zup g1 i0, cc i i0 i1]) (zTrG hN htg)
              rw [wn] at hpp
              obtain ⟨y1, y2, y3, y4⟩ := zPassEq (wd := rwd) T0 (zRN_1 R) (Or.inl rfl) C2 hrr hpp
              rcases y4 with ⟨k1, _, _, k2⟩ | ⟨k1, _⟩
              · rw [if_neg (by rw [k1]; decide)] at h1
                rw [if_neg (by rw [← y1, k1]; decide)] at h2
                obtain ⟨-, h1⟩ := zg_s h1
                rw [← Option.some.inj h1, ← Option.some.inj h2]
                show a.2.2.2 p1.toNatClampNeg - rr.2.2.2 p1.toNatClampNeg = _
                have s1 := (w2 p1 d.1.1 d.1.2).1
                have s2 := (k2 p1 d.1.1 d.1.2).1
                dsimp only at s1 s2
                rw [s1, s2]
              · rw [if_pos k1] at h1
                rw [if_pos (y1.symm.trans k1)] at h2
                rw [← Option.some.inj h1, ← Option.some.inj h2]
            · rw [if_pos w1] at h1
              rw [if_pos (e1.symm.trans w1)] at h2
              rw [← Option.some.inj h1, ← Option.some.inj h2]
        · exact absurd ⟨e, u2⟩ v2
      · rcases zFrJ T0 G hv with ⟨_, _, v2⟩ | ⟨v1, _⟩
        · exact absurd v2 u2
        · rw [if_pos v1] at h1
          rw [if_pos u1] at h2
          rw [← Option.some.inj h1, ← Option.some.inj h2]
    · rw [if_pos (show (if 0 ≤ p2 ∧ p2 < cN then (1 : Int32) else 0) = 0 by rw [zif1]; exact e)] at h2
      rcases zFrJ T0 G hv with ⟨_, v2, _⟩ | ⟨v1, _⟩
      · exact absurd v2 e
      · rw [if_pos v1] at h1
        rw [← Option.some.inj h1, ← Option.some.inj h2]
  · rw [if_pos (show (if (0 ≤ p1 ∧ p1 < cN) ∧ ¬ al p1.toNatClampNeg = (-1) then (1 : Int32) else 0) = 0 by rw [zif1]; exact d)] at h1 h2
    rw [← Option.some.inj h1, ← Option.some.inj h2]
set_option maxHeartbeats 4000000 in
theorem zeq_certificate {cF cc cN inp gcl mHh mFa mFw : Int32} {nF nN stp mst prc al made amt op fx jn lets gof gfx rwd hand mF mN mCst mNF mNN mS mM mC mW mO m1 m2 mX mG mH mTr : Nat → Int32} {rlo rhi mA mB mLe mGe mEr : Nat → Int64} {mWb : Int64} {p1 fa rs : Int32} {er0 : Nat → Int64} {x : Int32 × Int32 × Int32 × (Nat → Int64)} {y : Int32 × Int32 × Int32 × Int32 × (Nat → Int32) × (Nat → Int64) × (Nat → Int64) × (Nat → Int64)} (T : zTN cF cc cN inp nF nN stp mst prc al made amt op fx jn lets mF mN mNF mNN mS mM mC mW mCst mO m1 m2 mX mG mA mB) (R : zRN cN (-1) 0 op made amt rwd rlo rhi) (H : zHN cN cF gcl mHh gof gfx hand mH) (h1 : fn_X11_certificate p1 cF cN gcl fa rs gof hand stp op made er0 amt rlo rhi mst al = some x) (h2 : fn_X12_certificate p1 mWb mHh mFa mFw mN mH mTr mO m1 m2 mLe mA mB mGe mS mEr mM mW = some y) : x.1 = y.1 := by
  have hN := T.2.1
  unfold fn_X11_certificate at h1
  unfold fn_X12_certificate at h2
  obtain ⟨b, hb, h2⟩ := zb_s h2
  have e25 : (0 : Int32) ≤ 25 * cN ∧ 25 * cN ≤ 350 := by have := hN.2; grind
  simp only [zn01.1, hN.1, zIsIn, zb_some, z64_ge0, z64_ltm _ _ e25.1] at h2
  by_cases d : 0 ≤ p1 ∧ p1 < 25 * cN
  · rw [if_neg (by grind), if_neg (by grind)] at h1
    obtain ⟨a, ha, h1⟩ := zb_s h1
    rw [if_neg (show ¬ (if 0 ≤ p1 ∧ p1 < 25 * cN then (1 : Int32) else 0) = 0 by rw [zif1]; exact fun q => q d)] at h2
    obtain ⟨m1, m2, m3, m4⟩ := zdiv25 p1 d.1 (by grind)
    have mn : p1 / 25 < cN := by
      have k1 := Int32.le_iff_toInt_le.mp d.1
      have k2 := Int32.lt_iff_toInt_lt.mp d.2
      have k3 := Int32.le_iff_toInt_le.mp hN.2.1
      have k4 := Int32.le_iff_toInt_le.mp hN.2.2
      rw [zi_0] at k1 k3
      rw [show (14 : Int32).toInt = 14 by decide +kernel] at k4
      have e1 := zo_idiv (x := p1) (y := 25) (z := p1 / 25) rfl rfl (show (25 : Int32).toInt = 25 by decide +kernel) ⟨k1, by omega⟩
      have e2 := zo_mul (x := 25) (y := cN) (z := 25 * cN) rfl (show (25 : Int32).toInt = 25 by decide +kernel) rfl (by omega)
      exact Int32.lt_iff_toInt_lt.mpr (by rw [e1]; omega)
    generalize p1 - p1 / 25 * 25 = at_ at h1 h2 m3 m4
    generalize p1 / 25 = nr at h1 h2 m1 m2 mn
    rcases zHandP T R H ha hb with ⟨_, z1, z2⟩ | ⟨c, ⟨e1, e2, e3, e4⟩, tr⟩
    · rw [if_pos z1] at h1
      rw [if_pos z2] at h2
      rw [← Option.some.inj h1, ← Option.some.inj h2]
    · dsimp only at e1 e2 e3
      rcases e4 with ⟨w1, _, _, w2⟩ | ⟨w1, _⟩
      · rw [if_neg (by rw [w1]; decide)] at h1
        rw [if_neg (by rw [← e1, w1]; decide)] at h2
        obtain ⟨s1, s2, s3, -⟩ := w2 nr m1 mn
        dsimp only at s1 s2 s3
        obtain ⟨C, -⟩ := H.2.2 c.1 c.2
        by_cases t0 : at_ = 0
        · rw [if_pos t0, zFmtOf hN.2.2 C ⟨m1, mn⟩, zb_some] at h1
          rw [if_pos t0] at h2
          obtain ⟨-, h2⟩ := zg_s h2
          rw [← Option.some.inj h1, ← Option.some.inj h2]
        · rw [if_neg t0] at h1 h2
          by_cases t1 : 8 < at_
          · rw [if_pos t1] at h1
            rw [if_pos (by grind)] at h2
            by_cases t2 : 16 < at_
            · rw [if_pos t2] at h1
              rw [if_pos (by grind)] at h2
              obtain ⟨-, h1⟩ := zg_s h1
              obtain ⟨-, h2⟩ := zg_s h2
              rw [s1] at h1
              obtain ⟨u, hu, h1⟩ := zb_s h1
              obtain ⟨v, hv, h2⟩ := zb_s h2
              rw [← Option.some.inj h1, ← Option.some.inj h2]
              exact Option.some.inj (hu.symm.trans hv)
            · rw [if_neg t2] at h1
              rw [if_neg (by grind)] at h2
              obtain ⟨-, h1⟩ := zg_s h1
              obtain ⟨-, h2⟩ := zg_s h2
              rw [s3] at h2
              obtain ⟨u, hu, h1⟩ := zb_s h1
              obtain ⟨v, hv, h2⟩ := zb_s h2
              rw [← Option.some.inj h1, ← Option.some.inj h2]
              exact Option.some.inj (hu.symm.trans hv)
          · rw [if_neg t1] at h1
            rw [if_neg (by grind)] at h2
            obtain ⟨-, h1⟩ := zg_s h1
            obtain ⟨-, h2⟩ := zg_s h2
            rw [s2] at h2
            obtain ⟨u, hu, h1⟩ := zb_s h1
            obtain ⟨v, hv, h2⟩ := zb_s h2
            rw [← Option.some.inj h1, ← Option.some.inj h2]
            exact Option.some.inj (hu.symm.trans hv)
      · rw [if_pos w1] at h1
        rw [if_pos (e1.symm.trans w1)] at h2
        rw [← Option.some.inj h1, ← Option.some.inj h2]
  · rw [if_pos (show (if 0 ≤ p1 ∧ p1 < 25 * cN then (1 : Int32) else 0) = 0 by rw [zif1]; exact d)] at h2
    have ex : x.1 = (-1) := by
      by_cases z : p1 < 0
      · rw [if_pos z] at h1; rw [← Option.some.inj h1]
      · rw [if_neg z, if_pos (by grind)] at h1; rw [← Option.some.inj h1]
    have ey : y.1 = (-1) := by
      by_cases z : b.1 = 0
      · rw [if_pos z] at h2; rw [← Option.some.inj h2]
      · rw [if_neg z] at h2; rw [← Option.some.inj h2]
    rw [ex, ey]
/-! certificates -/
theorem zB255 {x : Int32} (h : (-128) ≤ x ∧ x ≤ 127) : x &&& 255 = if x < 0 then x + 256 else x := by
  have e : x.toInt8.toInt32 = x := by
    have k1 := Int32.le_iff_toInt_le.mp h.1
    have k2 := Int32.le_iff_toInt_le.mp h.2
    rw [show (-128 : Int32).toInt = -128 by decide +kernel] at k1
    rw [show (127 : Int32).toInt = 127 by decide +kernel] at k2
    apply Int32.toInt_inj.mp
    rw [Int8.toInt_toInt32, Int32.toInt_toInt8, Int.bmod_def]
    split <;> omega
  have := (zByte x).2.2
  rw [e] at this
  exact this
theorem zTp_b {f g : Nat → Int32} (h : zTp f g) (i : Nat) : f i &&& 255 = g i := by
  obtain ⟨h1, h2, h3⟩ := h i
  rw [zB255 ⟨h1, h2⟩, h3]
theorem zRdL {p : Int32} {f g : Nat → Int32} {x y : Int64} (hp : 0 ≤ p ∧ p ≤ 1192) (ht : zTp f g) (h1 : fn_X0_readLong p f = some x) (h2 : fn_X12_readsLong p g = some y) : x = y := by
  unfold fn_X0_readLong at h1
  unfold fn_X12_readsLong at h2
  refine zl_ip2 (P := fun x y => x = y) (fun s t => s.1 = t.1 ∧ s.2 = p + t.2 ∧ 0 ≤ t.2 ∧ t.2 ≤ 8) ?_ _ _ _ _ _ _ ?_ h1 h2
  rotate_left
  · exact ⟨rfl, (show p = p + 0 from (Int32.add_zero _).symm), (show (0 : Int32) ≤ 0 by decide), (show (0 : Int32) ≤ 8 by decide)⟩
  intro s t k1 k2 o1 o2 ⟨R1, R2, R3, R4⟩ hb ho1 ho2
  obtain ⟨v, k⟩ := s
  obtain ⟨w, j⟩ := t
  dsimp only at R1 R2 R3 R4 ho1 ho2
  subst R1 R2
  by_cases c : 8 ≤ j
  · rw [if_pos c] at ho2
    rw [if_pos (show p + 8 ≤ p + j by grind)] at ho1
    simp only [zn] at ho1
    have e1 : o1 = if (if v < 1000000000000 then v else 1000000000000) < -1000000000000 then -1000000000000 else (if v < 1000000000000 then v else 1000000000000) := (Option.some.inj ho1).symm
    by_cases d : v ≤ 1000000000000
    · rw [if_pos ((lg_cmp_le _ _).mpr d)] at ho2
      by_cases e : -1000000000000 ≤ v
      · rw [if_pos ((lg_cmp_ge _ _).mpr e)] at ho2
        rw [e1, ← Option.some.inj ho2]
        grind
      · rw [if_neg (fun q => e ((lg_cmp_ge _ _).mp q))] at ho2
        rw [e1, ← Option.some.inj ho2]
        grind
    · rw [if_neg (fun q => d ((lg_cmp_le _ _).mp q))] at ho2
      rw [e1, ← Option.some.inj ho2]
      grind
  · rw [if_neg c] at ho2
    rw [if_neg (show ¬ p + 8 ≤ p + j by grind), if_neg (show ¬ 1200 ≤ p + j by grind)] at ho1
    obtain ⟨-, ho1⟩ := zg_s ho1
    obtain ⟨-, ho2⟩ := zg_s ho2
    simp only [zn] at ho1 ho2
    rw [zTp_b ht] at ho1
    refine hb _ _ _ _ ?_ ho1 ho2
    exact ⟨rfl, (show p + j + 1 = p + (j + 1) by grind), (show 0 ≤ j + 1 by grind), (show j + 1 ≤ 8 by grind)⟩
theorem zRdL_b {p : Int32} {g : Nat → Int32} {y : Int64} (h2 : fn_X12_readsLong p g = some y) : -1000000000000 ≤ y.toInt ∧ y.toInt ≤ 1000000000000 := by
  have e1 : (1000000000000 : Int64).toInt = 1000000000000 := by decide +kernel
  have e2 : (-1000000000000 : Int64).toInt = -1000000000000 := by decide +kernel
  unfold fn_X12_readsLong at h2
  refine zl_ip (P := fun y : Int64 => -1000000000000 ≤ y.toInt ∧ y.toInt ≤ 1000000000000) (fun _ => True) ?_ _ _ _ trivial h2
  intro s back o _ hb ho
  by_cases c : 8 ≤ s.2
  · rw [if_pos c] at ho
    by_cases d : s.1 ≤ 1000000000000
    · rw [if_pos ((lg_cmp_le _ _).mpr d)] at ho
      have d' := Int64.le_iff_toInt_le.mp d
      rw [e1] at d'
      by_cases e : -1000000000000 ≤ s.1
      · rw [if_pos ((lg_cmp_ge _ _).mpr e)] at ho
        have e' := Int64.le_iff_toInt_le.mp e
        rw [e2] at e'
        rw [← Option.some.inj ho]
        exact ⟨e', d'⟩
      · rw [if_neg (fun q => e ((lg_cmp_ge _ _).mp q))] at ho
        rw [← Option.some.inj ho, e2]
        omega
    · rw [if_neg (fun q => d ((lg_cmp_le _ _).mp q))] at ho
      rw [← Option.some.inj ho, e1]
      omega
  · rw [if_neg c] at ho
    obtain ⟨-, ho⟩ := zg_s ho
    exact hb _ _ trivial ho
noncomputable def zSd (cN i : Int32) (mG fx Y1 : Nat → Int32) : Prop := ∀ o : Int32, 0 ≤ o → o < cN → mG o.toNatClampNeg = mG i.toNatClampNeg → (o < i → Y1 o.toNatClampNeg = Y1 i.toNatClampNeg) ∧ (fx o.toNatClampNeg = (-1) ∨ fx o.toNatClampNeg = Y1 i.toNatClampNeg)
theorem zSaidM {cF cN : Int32} {mF mN mX mG mY1 : Nat → Int32} {i x : Int32} (hF : mF 0 = cF ∧ 0 ≤ cF) (hN : mN 0 = cN ∧ 0 ≤ cN ∧ cN ≤ 14) (h : fn_X12_isFormatSaid i mY1 mF mN mG mX = some x) : x = 1 ∧ (0 ≤ mY1 i.toNatClampNeg ∧ mY1 i.toNatClampNeg < cF) ∧ zSd cN i mG mX mY1 ∨ x = 0 ∧ ¬ ((0 ≤ mY1 i.toNatClampNeg ∧ mY1 i.toNatClampNeg < cF) ∧ zSd cN i mG mX mY1) := by
  unfold fn_X12_isFormatSaid at h
  obtain ⟨-, h⟩ := zg_s h
  rw [zIsFmt (by rw [hF.1]; exact hF.2), zb_some, hF.1] at h
  by_cases c : 0 ≤ mY1 i.toNatClampNeg ∧ mY1 i.toNatClampNeg < cF
  · rw [if_neg (by rw [zif1]; exact fun q => q c)] at h
    rw [zn01.1, hN.1] at h
    refine zl_ip (P := fun x => x = 1 ∧ (0 ≤ mY1 i.toNatClampNeg ∧ mY1 i.toNatClampNeg < cF) ∧ zSd cN i mG mX mY1 ∨ x = 0 ∧ ¬ ((0 ≤ mY1 i.toNatClampNeg ∧ mY1 i.toNatClampNeg < cF) ∧ zSd cN i mG mX mY1)) (fun s => 0 ≤ s ∧ ∀ o : Int32, 0 ≤ o → o < s → mG o.toNatClampNeg = mG i.toNatClampNeg → (o < i → mY1 o.toNatClampNeg = mY1 i.toNatClampNeg) ∧ (mX o.toNatClampNeg = (-1) ∨ mX o.toNatClampNeg = mY1 i.toNatClampNeg)) ?_ _ _ _ ?_ h
    rotate_left
    · exact ⟨by decide, fun o o1 o2 => by grind⟩
    intro s back o ⟨H1, H2⟩ hb ho
    by_cases d : cN ≤ s
    · rw [if_pos d] at ho
      exact Or.inl ⟨(Option.some.inj ho).symm, c, fun o o0 o1 o2 => H2 o o0 (by grind) o2⟩
    · rw [if_neg d] at ho
      obtain ⟨-, ho⟩ := zg_s ho
      obtain ⟨-, ho⟩ := zg_s ho
      have nxt : (mG s.toNatClampNeg = mG i.toNatClampNeg → (s < i → mY1 s.toNatClampNeg = mY1 i.toNatClampNeg) ∧ (mX s.toNatClampNeg = (-1) ∨ mX s.toNatClampNeg = mY1 i.toNatClampNeg)) → back (s + 1) = some o → (o = 1 ∧ (0 ≤ mY1 i.toNatClampNeg ∧ mY1 i.toNatClampNeg < cF) ∧ zSd cN i mG mX mY1 ∨ o = 0 ∧ ¬ ((0 ≤ mY1 i.toNatClampNeg ∧ mY1 i.toNatClampNeg < cF) ∧ zSd cN i mG mX mY1)) := by
        intro k1 k2
        refine hb _ _ ?_ k2
        refine ⟨by grind, fun j j0 j1 j2 => ?_⟩
        by_cases q : j = s
        · rw [q] at j2 ⊢; exact k1 j2
        · exact H2 j j0 (by grind) j2
      by_cases e : mG s.toNatClampNeg = mG i.toNatClampNeg
      · rw [if_pos e] at ho
        simp only [zj] at ho
        have fxp : (s < i → mY1 s.toNatClampNeg = mY1 i.toNatClampNeg) → (zg s 28 (if mX s.toNatClampNeg = (-1) then back (s + 1) else zg i 14 (if mX s.toNatClampNeg = mY1 i.toNatClampNeg then back (s + 1) else some 0))) = some o → (o = 1 ∧ (0 ≤ mY1 i.toNatClampNeg ∧ mY1 i.toNatClampNeg < cF) ∧ zSd cN i mG mX mY1 ∨ o = 0 ∧ ¬ ((0 ≤ mY1 i.toNatClampNeg ∧ mY1 i.toNatClampNeg < cF) ∧ zSd cN i mG mX mY1)) := by
          intro k1 k2
          obtain ⟨-, k2⟩ := zg_s k2
          by_cases w : mX s.toNatClampNeg = (-1)
          · rw [if_pos w] at k2
            exact nxt (fun _ => ⟨k1, Or.inl w⟩) k2
          · rw [if_neg w] at k2
            obtain ⟨-, k2⟩ := zg_s k2
            by_cases v : mX s.toNatClampNeg = mY1 i.toNatClampNeg
            · rw [if_pos v] at k2
              exact nxt (fun _ => ⟨k1, Or.inr v⟩) k2
            · rw [if_neg v] at k2
              exact Or.inr ⟨(Option.some.inj k2).symm, fun q => (q.2 s H1 (by grind) e).2.elim w v⟩
        by_cases u : i ≤ s
        · rw [if_pos u] at ho
          exact fxp (fun q => absurd u (by grind)) ho
        · rw [if_neg u] at ho
          obtain ⟨-, ho⟩ := zg_s ho
          obtain ⟨-, ho⟩ := zg_s ho
          by_cases v : mY1 s.toNatClampNeg = mY1 i.toNatClampNeg
          · rw [if_pos v] at ho
            exact fxp (fun _ => v) ho
          · rw [if_neg v] at ho
            exact Or.inr ⟨(Option.some.inj ho).symm, fun q => v ((q.2 s H1 (by grind) e).1 (by grind))⟩
      · rw [if_neg e] at ho
        exact nxt (fun q => absurd q e) ho
  · rw [if_pos (by rw [zif1]; exact c)] at h
    exact Or.inr ⟨(Option.some.inj h).symm, fun q => c q.1⟩
/-- what both hold of a CERTIFICATE as far as i -/
noncomputable def zKR (cN cF i : Int32) (gof gfx ch mG fx Y1 tr : Nat → Int32) (lo hi er le ge em : Nat → Int64) : Prop :=
  (∀ j : Int32, 0 ≤ j → j < i → tr j.toNatClampNeg = Y1 j.toNatClampNeg ∧ (0 ≤ Y1 j.toNatClampNeg ∧ Y1 j.toNatClampNeg < cF) ∧ ch (gof j.toNatClampNeg).toNatClampNeg = Y1 j.toNatClampNeg ∧ (∀ o : Int32, 0 ≤ o → o < cN → mG o.toNatClampNeg = mG j.toNatClampNeg → fx o.toNatClampNeg = (-1) ∨ fx o.toNatClampNeg = Y1 j.toNatClampNeg))
  ∧ (∀ j : Int32, 0 ≤ j → j < cN → (∀ o : Int32, 0 ≤ o → o < i → ¬ mG o.toNatClampNeg = mG j.toNatClampNeg) → ch (gof j.toNatClampNeg).toNatClampNeg = gfx (gof j.toNatClampNeg).toNatClampNeg)
  ∧ (∀ j : Int32, 0 ≤ j → j < i → er j.toNatClampNeg = em j.toNatClampNeg ∧ le j.toNatClampNeg = lo j.toNatClampNeg ∧ ge j.toNatClampNeg = hi j.toNatClampNeg ∧ (0 ≤ (er j.toNatClampNeg).toInt ∧ (er j.toNatClampNeg).toInt ≤ 1000000000) ∧ (-1000000000 ≤ (lo j.toNatClampNeg).toInt ∧ (lo j.toNatClampNeg).toInt ≤ 1000000000) ∧ (-1000000000 ≤ (hi j.toNatClampNeg).toInt ∧ (hi j.toNatClampNeg).toInt ≤ 1000000000))
theorem zAgree {cF cN gc gfr gcl : Int32} {fx jn gof gfx gld mG mY1 : Nat → Int32} {i : Int32} {ch tr : Nat → Int32} {lo hi er le ge em : Nat → Int64} (hN : cN ≤ 14) (hg : zG0 cN jn mG) (G : zGp cN gc gfr gcl gof gfx gld fx mG) (K : zKR cN cF i gof gfx ch mG fx mY1 tr lo hi er le ge em) (hi' : 0 ≤ i ∧ i < cN) (h0 : 0 ≤ mY1 i.toNatClampNeg) : (ch (gof i.toNatClampNeg).toNatClampNeg = (-1) ∨ ch (gof i.toNatClampNeg).toNatClampNeg = mY1 i.toNatClampNeg) ↔ zSd cN i mG fx mY1 := by
  obtain ⟨K1, K2, -⟩ := K
  by_cases ex : ∃ o : Int32, 0 ≤ o ∧ o < i ∧ mG o.toNatClampNeg = mG i.toNatClampNeg
  · obtain ⟨o0, a0, a1, a2⟩ := ex
    have eg := (zGp_eq hN hg G ⟨a0, by grind⟩ hi').mpr a2
    obtain ⟨-, b1, b2, b3⟩ := K1 o0 a0 a1
    rw [← eg, b2]
    constructor
    · intro q
      have q : mY1 o0.toNatClampNeg = mY1 i.toNatClampNeg := by
        rcases q with q | q
        · rw [q] at b1; exact absurd b1.1 (by decide)
        · exact q
      intro o o1 o2 o3
      refine ⟨fun lt => ?_, ?_⟩
      · have eo := (zGp_eq hN hg G ⟨o1, o2⟩ ⟨a0, by grind⟩).mpr (o3.trans a2.symm)
        rw [← (K1 o o1 lt).2.2.1, eo, b2]
        exact q
      · rw [← q]
        exact b3 o o1 o2 (o3.trans a2.symm)
    · intro q
      exact Or.inr ((q o0 a0 (by grind) a2).1 a1)
  · have no : ∀ o : Int32, 0 ≤ o → o < i → ¬ mG o.toNatClampNeg = mG i.toNatClampNeg := fun o o0 o1 o2 => ex ⟨o, o0, o1, o2⟩
    rw [K2 i hi'.1 hi'.2 no]
    have F := zGp_fx hN hg G hi'
    constructor
    · intro q o o1 o2 o3
      refine ⟨fun lt => absurd o3 (no o o1 lt), ?_⟩
      rcases F with ⟨f1, f2⟩ | ⟨f1, _⟩ | ⟨f1, _, f3⟩
      · exact Or.inl (f2 o o1 o2 o3)
      · rw [f1] at q
        rcases q with q | q
        · exact absurd q (by decide)
        · rw [← q] at h0; exact absurd h0 (by decide)
      · rcases q with q | q
        · rw [q] at f1; exact absurd f1 (by decide)
        · rw [← q]; exact f3 o o1 o2 o3
    · intro q
      rcases F with ⟨f1, _⟩ | ⟨_, o, p, b1, b2, b3, b4, b5, b6, b7, b8, b9⟩ | ⟨f1, ⟨o, b1, b2, b3, b4⟩, _⟩
      · exact Or.inl f1
      · have w1 := ((q o b1 b2 b5).2).resolve_left b7
        have w2 := ((q p b3 b4 b6).2).resolve_left b8
        exact absurd (w1.trans w2.symm) b9
      · rcases (q o b1 b2 b3).2 with w | w
        · rw [← b4, w] at f1; exact absurd f1 (by decide)
        · rw [← b4]; exact Or.inr w
/-! certificates: one NUMBER, in both -/
set_option maxHeartbeats 8000000 in
theorem zBrk {cF cc cN inp gc gfr gcl : Int32} {nF nN stp mst prc al made amt op fx jn lets gof gfx gld mF mN mCst mNF mNN mS mM mC mW mO m1 m2 mX mG mT mY1 : Nat → Int32} {mA mB mY2 mY3 mY4 : Nat → Int64} {mWb : Int64} {i fmt : Int32} {ch tr tp : Nat → Int32} {lo hi er le ge em : Nat → Int64} {x : Int32 × (Nat → Int32) × (Nat → Int64) × (Nat → Int64) × (Nat → Int64)} {y : Int32 × (Nat → Int32) × (Nat → Int64) × (Nat → Int64) × (Nat → Int64)} (T : zTN cF cc cN inp nF nN stp mst prc al made amt op fx jn lets mF mN mNF mNN mS mM mC mW mCst mO m1 m2 mX mG mA mB) (G : zGp cN gc gfr gcl gof gfx gld fx mG) (ht : zTp tp mT) (K : zKR cN cF i gof gfx ch mG fx mY1 tr lo hi er le ge em) (hi' : 0 ≤ i ∧ i < cN) (hf : fmt = mY1 i.toNatClampNeg) (r1 : fn_X12_readsLong (25 * i + 1) mT = some (mY2 i.toNatClampNeg)) (r2 : fn_X12_readsLong (25 * i + 9) mT = some (mY3 i.toNatClampNeg)) (r3 : fn_X12_readsLong (25 * i + 17) mT = some (mY4 i.toNatClampNeg)) (h1 : fn_X0_whyNot i fmt cF gof ch tp lo hi er cN op made amt stp mst al = some x) (h2 : fn_X12_breaks i (-1) mWb mY1 mF mN mG mX tr mO m1 m2 le mA mB ge mS em mY2 mY3 mY4 mM mW = some y) : x.1 = y.1 ∧ (x.1 = 0 → zKR cN cF (i + 1) gof gfx x.2.1 mG fx mY1 y.2.1 x.2.2.1 x.2.2.2.1 x.2.2.2.2 y.2.2.1 y.2.2.2.1 y.2.2.2.2) := by
  obtain ⟨⟨f1, f2, f3⟩, ⟨n1, n2, n3⟩, hC, hz, hp, hI, hff, hn, hg⟩ := T
  subst hf
  have hs : ∀ f : Int32, 0 ≤ f → f < cF → 1 ≤ stp f.toNatClampNeg := fun f f0 f1 => (hff f f0 f1).2.2.2.2.1.1
  have R2 := hi'.1
  have h14 : 0 ≤ i ∧ i < 14 := ⟨hi'.1, by grind⟩
  have ag := zAgree n3 hg G K hi'
  unfold fn_X0_whyNot at h1
  unfold fn_X12_breaks at h2
  obtain ⟨-, h1⟩ := zg_s h1
  obtain ⟨-, h1⟩ := zg_s h1
  obtain ⟨j3, ej, h1⟩ := zj_g h1
  simp only [zj] at h1
  have main : (ch (gof i.toNatClampNeg).toNatClampNeg = (-1) ∨ ch (gof i.toNatClampNeg).toNatClampNeg = mY1 i.toNatClampNeg) ∧ j3 1 = some x ∨ ¬ (ch (gof i.toNatClampNeg).toNatClampNeg = (-1) ∨ ch (gof i.toNatClampNeg).toNatClampNeg = mY1 i.toNatClampNeg) ∧ j3 0 = some x := by
    by_cases c : ch (gof i.toNatClampNeg).toNatClampNeg = (-1)
    · rw [if_pos c] at h1; exact Or.inl ⟨Or.inl c, h1⟩
    · rw [if_neg c] at h1
      by_cases d : ch (gof i.toNatClampNeg).toNatClampNeg = mY1 i.toNatClampNeg
      · rw [if_pos d] at h1; exact Or.inl ⟨Or.inr d, h1⟩
      · rw [if_neg d] at h1; exact Or.inr ⟨fun q => q.elim c d, h1⟩
  obtain ⟨w, hw, h2⟩ := zb_s h2
  have sd := zSaidM ⟨f1, f2⟩ ⟨n1, n2, n3⟩ hw
  have sdc : zSd cN i mG mX mY1 ↔ zSd cN i mG fx mY1 := by
    unfold zSd
    constructor
    · intro q o o0 o1 o2
      rw [(hn o o0 o1).2.2.1]; exact q o o0 o1 o2
    · intro q o o0 o1 o2
      rw [← (hn o o0 o1).2.2.1]; exact q o o0 o1 o2
  have bad : x.1 = 1 → y.1 = 1 → x.1 = y.1 ∧ (x.1 = 0 → zKR cN cF (i + 1) gof gfx x.2.1 mG fx mY1 y.2.1 x.2.2.1 x.2.2.2.1 x.2.2.2.2 y.2.2.1 y.2.2.2.1 y.2.2.2.2) := fun a b => ⟨a.trans b.symm, fun q => absurd (a.symm.trans q) (by decide)⟩
  by_cases v : 0 ≤ mY1 i.toNatClampNeg ∧ mY1 i.toNatClampNeg < cF
  · rcases main with ⟨g1, h1⟩ | ⟨g1, h1⟩
    · have sdx := (ag v.1).mp g1
      have h1 := zj_s ej h1
      try dsimp only at h1
      have w1 : w = 1 := by
        rcases sd with ⟨s1, _⟩ | ⟨_, s2⟩
        · exact s1
        · exact absurd ⟨v, sdc.mpr sdx⟩ s2
      rw [if_neg (by rw [w1]; decide)] at h2
      rw [zHasF, zb_some, if_neg (by rw [zif1]; exact fun q => q v), if_neg (show ¬ (1 : Int32) = 0 by decide), Int32.mul_comm i 25] at h1
      obtain ⟨-, h1⟩ := zg_s h1
      obtain ⟨a, ha, h1⟩ := zb_s h1
      obtain ⟨-, h1⟩ := zg_s h1
      obtain ⟨b, hb, h1⟩ := zb_s h1
      obtain ⟨c, hc, h1⟩ := zb_s h1
      have ea := zRdL ⟨by grind, by grind⟩ ht ha r1
      have eb := zRdL ⟨by grind, by grind⟩ ht hb r2
      have ec := zRdL ⟨by grind, by grind⟩ ht hc r3
      rw [ea, eb, ec] at h1
      have b2 := zRdL_b r1
      have b3 := zRdL_b r2
      have b4 := zRdL_b r3
      generalize hA : mY2 i.toNatClampNeg = A at *
      generalize hB : mY3 i.toNatClampNeg = B at *
      generalize hD : mY4 i.toNatClampNeg = D at *
      obtain ⟨-, h2⟩ := zg_s h2
      obtain ⟨u, hu, h2⟩ := zb_s h2
      obtain ⟨em', hem, h2⟩ := zb_s h2
      have hn1 := hn i hi'.1 hi'.2
      have ok := zOk_of hn1
      obtain ⟨q1, q2, q3, q4, q5, q6, q7, q8, q9, q10, q11, q12, q13, q14, q15, q16, q17⟩ := hn i hi'.1 hi'.2
      obtain ⟨K1, K2, K3⟩ := K
      have hu := zLaysR hn1 hu
      rw [if_neg (show ¬ (i = (-1) ∧ op i.toNatClampNeg = 0) from fun q => by have := q.1; grind), Int64.sub_zero, Int64.add_zero] at hu
      have part : ∀ m : Int32, (-1) ≤ m → m < i → m = (-1) ∨ (0 ≤ m ∧ m < i ∧ er m.toNatClampNeg = em m.toNatClampNeg ∧ le m.toNatClampNeg = lo m.toNatClampNeg ∧ ge m.toNatClampNeg = hi m.toNatClampNeg ∧ (0 ≤ (er m.toNatClampNeg).toInt ∧ (er m.toNatClampNeg).toInt ≤ 1000000000) ∧ (-1000000000 ≤ (lo m.toNatClampNeg).toInt ∧ (lo m.toNatClampNeg).toInt ≤ 1000000000) ∧ (-1000000000 ≤ (hi m.toNatClampNeg).toInt ∧ (hi m.toNatClampNeg).toInt ≤ 1000000000)) := by
        intro m m0 m1
        by_cases z : m = (-1)
        · exact Or.inl z
        · exact Or.inr ⟨by grind, m1, K3 m (by grind) m1⟩
      have pa := part _ q12.1 q12.2
      have pb := part _ q13.1 q13.2
      have ul : ∀ (row : Nat → Int64) (z : Int64) (m : Int32), 0 ≤ m → m < i → vp_updL row i.toNatClampNeg z m.toNatClampNeg = row m.toNatClampNeg := fun row z m m0 m1 => by rw [zupL R2 m0, if_neg (by grind)]
      have us : ∀ (row : Nat → Int64) (z : Int64), vp_updL row i.toNatClampNeg z i.toNatClampNeg = z := fun row z => by rw [zupL R2 R2, if_pos rfl]
      obtain ⟨l1, l2⟩ := zLw_c (i := i) (op := op) (amt := amt) (made := made) (lo' := le) (hi' := ge) (lo := lo) (hi := hi) (pa.imp id (fun q => ⟨q.2.2.2.1, q.2.2.2.2.1⟩)) (pb.imp id (fun q => ⟨q.2.2.2.1, q.2.2.2.2.1⟩))
      rw [l1, l2] at hu
      obtain ⟨l3, l4⟩ := zLw_b (amt := amt) (lo := lo) (hi := hi) (lo' := vp_updL lo i.toNatClampNeg A) (hi' := vp_updL hi i.toNatClampNeg B) ok (fun m m0 m1 => ⟨ul _ _ m m0 m1, ul _ _ m m0 m1⟩)
      rw [zLwJ n3 hi' ok, zb_some, l3, us] at h1
      -- the CHOICE as far as i
      have gr : ∀ j : Int32, 0 ≤ j → j < i + 1 → 0 ≤ gof j.toNatClampNeg ∧ gof j.toNatClampNeg < 14 := fun j j0 j1 => zGofR n3 hg G ⟨j0, by grind⟩
      have gi := gr i R2 (by grind)
      have C : zCh (i + 1) cF gof (upd ch (gof i.toNatClampNeg).toNatClampNeg (mY1 i.toNatClampNeg)) (upd tr i.toNatClampNeg (mY1 i.toNatClampNeg)) := by
        intro j j0 j1
        refine ⟨gr j j0 j1, ?_⟩
        rw [zup gi.1 (gr j j0 j1).1, zup R2 j0]
        by_cases z : j = i
        · subst z
          rw [if_pos rfl, if_pos rfl]
          exact ⟨rfl, v.1, v.2⟩
        · have lt : j < i := by grind
          obtain ⟨k1, k2, k3, k4⟩ := K1 j j0 lt
          rw [if_neg z, k1]
          refine ⟨?_, k2.1, k2.2⟩
          by_cases t : gof j.toNatClampNeg = gof i.toNatClampNeg
          · rw [if_pos t]
            exact ((sdx j j0 (by grind) ((zGp_eq n3 hg G ⟨j0, by grind⟩ hi').mp t)).1 lt).symm
          · rw [if_neg t]; exact k3
      obtain ⟨-, g2, g3, -, g5, g6, -⟩ := hff _ v.1 v.2
      have eti : upd tr i.toNatClampNeg (mY1 i.toNatClampNeg) i.toNatClampNeg = mY1 i.toNatClampNeg := by rw [zup R2 R2, if_pos rfl]
      generalize hS : stp (mY1 i.toNatClampNeg).toNatClampNeg = S at *
      have ha' := zCe_b (a := amt (2 * i + 0).toNatClampNeg) (own := (stp (upd tr i.toNatClampNeg (mY1 i.toNatClampNeg) (made (2 * i + 0).toNatClampNeg).toNatClampNeg).toNatClampNeg).toInt64) (e := vp_updL er i.toNatClampNeg D (made (2 * i + 0).toNatClampNeg).toNatClampNeg) (s := S) g5 (pa.imp id (fun q => by rw [ul _ _ _ q.1 q.2.1]; exact q.2.2.2.2.2.1))
      have hb' := zCe_b (a := amt (2 * i + 1).toNatClampNeg) (own := (stp (upd tr i.toNatClampNeg (mY1 i.toNatClampNeg) (made (2 * i + 1).toNatClampNeg).toNatClampNeg).toNatClampNeg).toInt64) (e := vp_updL er i.toNatClampNeg D (made (2 * i + 1).toNatClampNeg).toNatClampNeg) (s := S) g5 (pb.imp id (fun q => by rw [ul _ _ _ q.1 q.2.1]; exact q.2.2.2.2.2.1))
      have hxx := zAw_b (lo := vp_updL lo i.toNatClampNeg A) (hi := vp_updL hi i.toNatClampNeg B) q14 (pa.imp id (fun q => by rw [ul _ _ _ q.1 q.2.1, ul _ _ _ q.1 q.2.1]; exact q.2.2.2.2.2.2))
      have hyy := zAw_b (lo := vp_updL lo i.toNatClampNeg A) (hi := vp_updL hi i.toNatClampNeg B) q15 (pb.imp id (fun q => by rw [ul _ _ _ q.1 q.2.1, ul _ _ _ q.1 q.2.1]; exact q.2.2.2.2.2.2))
      have eJ := zErJ (amt := amt) (er := vp_updL er i.toNatClampNeg D) (lo := vp_updL lo i.toNatClampNeg A) (hi := vp_updL hi i.toNatClampNeg B) n3 (show i + 1 ≤ cN by grind) f3 C ⟨R2, by grind⟩ hs ok (fun _ a b x y ea eb ex ey => by
        have v := zV_b (a := a) (b := b) (x := x) (y := y) (by rw [ea, eti, hS]; exact ha') (by rw [eb, eti, hS]; exact hb') (by rw [ex]; exact hxx) (by rw [ey]; exact hyy)
        exact ⟨v.1, by have := v.2; omega⟩)
      rw [eti, hS] at eJ
      have bE := zEr_b (p := op i.toNatClampNeg) g5 ha' hb' hxx hyy
      generalize hE : zEr (op i.toNatClampNeg) S.toInt64 (zCe S.toInt64 (made (2 * i + 0).toNatClampNeg) (amt (2 * i + 0).toNatClampNeg) (stp (upd tr i.toNatClampNeg (mY1 i.toNatClampNeg) (made (2 * i + 0).toNatClampNeg).toNatClampNeg).toNatClampNeg).toInt64 (vp_updL er i.toNatClampNeg D (made (2 * i + 0).toNatClampNeg).toNatClampNeg)) (zCe S.toInt64 (made (2 * i + 1).toNatClampNeg) (amt (2 * i + 1).toNatClampNeg) (stp (upd tr i.toNatClampNeg (mY1 i.toNatClampNeg) (made (2 * i + 1).toNatClampNeg).toNatClampNeg).toNatClampNeg).toInt64 (vp_updL er i.toNatClampNeg D (made (2 * i + 1).toNatClampNeg).toNatClampNeg)) (zAw (made (2 * i + 0).toNatClampNeg) (amt (2 * i + 0).toNatClampNeg) (vp_updL lo i.toNatClampNeg A) (vp_updL hi i.toNatClampNeg B)) (zAw (made (2 * i + 1).toNatClampNeg) (amt (2 * i + 1).toNatClampNeg) (vp_updL lo i.toNatClampNeg A) (vp_updL hi i.toNatClampNeg B)) = E at eJ bE
      have eu1 : u.1 i.toNatClampNeg = zLw i op made amt lo hi := by rw [hu]; exact us _ _
      have eu2 : u.2 i.toNatClampNeg = zHg i op made amt lo hi := by rw [hu]; exact us _ _
      have elt : ∀ m : Int32, 0 ≤ m → m < i → u.1 m.toNatClampNeg = le m.toNatClampNeg ∧ u.2 m.toNatClampNeg = ge m.toNatClampNeg := fun m m0 m1 => by rw [hu]; exact ⟨ul _ _ m m0 m1, ul _ _ m m0 m1⟩
      have val : ∀ (m a : Int32), (-1) ≤ m → m < i → zAw m a u.1 u.2 = zAw m a (vp_updL lo i.toNatClampNeg A) (vp_updL hi i.toNatClampNeg B) := fun m a m0 m1 => by
        rcases part m m0 m1 with z | ⟨z0, _, _, z1, z2, _⟩
        · unfold zAw; rw [zVal_c (lo' := u.1) (lo := vp_updL lo i.toNatClampNeg A) (Or.inl z), zVal_c (lo' := u.2) (lo := vp_updL hi i.toNatClampNeg B) (Or.inl z)]
        · unfold zAw
          rw [zVal_c (lo' := u.1) (lo := vp_updL lo i.toNatClampNeg A) (Or.inr (by rw [(elt m z0 m1).1, z1, ul _ _ m z0 m1])), zVal_c (lo' := u.2) (lo := vp_updL hi i.toNatClampNeg B) (Or.inr (by rw [(elt m z0 m1).2, z2, ul _ _ m z0 m1]))]
      have eown : ∀ m : Int32, 0 ≤ m → m < i → (mS (upd tr i.toNatClampNeg (mY1 i.toNatClampNeg) m.toNatClampNeg).toNatClampNeg).toInt64 = (stp (upd tr i.toNatClampNeg (mY1 i.toNatClampNeg) m.toNatClampNeg).toNatClampNeg).toInt64 := fun m m0 m1 => by
        obtain ⟨-, -, u1, u2⟩ := C m m0 (by grind)
        rw [(hff _ u1 u2).2.1]
      have hem := zErM hn1 hem
      have eS : mS (mY1 i.toNatClampNeg).toNatClampNeg = S := by rw [← g2]
      have eem : em' = vp_updL em i.toNatClampNeg E := by
        rw [hem, eti, eS, val _ _ q12.1 q12.2, val _ _ q13.1 q13.2, zCe_c (own := (stp (upd tr i.toNatClampNeg (mY1 i.toNatClampNeg) (made (2 * i + 0).toNatClampNeg).toNatClampNeg).toNatClampNeg).toInt64) (e := vp_updL er i.toNatClampNeg D (made (2 * i + 0).toNatClampNeg).toNatClampNeg) (pa.imp id (fun q => ⟨eown _ q.1 q.2.1, by rw [ul _ _ _ q.1 q.2.1]; exact q.2.2.1.symm⟩)), zCe_c (own := (stp (upd tr i.toNatClampNeg (mY1 i.toNatClampNeg) (made (2 * i + 1).toNatClampNeg).toNatClampNeg).toNatClampNeg).toInt64) (e := vp_updL er i.toNatClampNeg D (made (2 * i + 1).toNatClampNeg).toNatClampNeg) (pb.imp id (fun q => ⟨eown _ q.1 q.2.1, by rw [ul _ _ _ q.1 q.2.1]; exact q.2.2.1.symm⟩)), hE]
      have eE2 : em' i.toNatClampNeg = E := by rw [eem]; exact us _ _
      rw [eu1, eu2, eE2] at h2
      have no : ∀ k : Int32, ¬ k = 0 → x.1 = k → y.1 = k → x.1 = y.1 ∧ (x.1 = 0 → zKR cN cF (i + 1) gof gfx x.2.1 mG fx mY1 y.2.1 x.2.2.1 x.2.2.2.1 x.2.2.2.2 y.2.2.1 y.2.2.2.1 y.2.2.2.2) := fun k k0 a b => ⟨a.trans b.symm, fun q => absurd (a.symm.trans q) k0⟩
      by_cases z2 : A ≤ zLw i op made amt lo hi
      · rw [if_pos ((lg_cmp_le _ _).mpr z2), zHgJ n3 hi' ok, zb_some, l4, us] at h1
        rw [if_pos ((lg_cmp_le _ _).mpr z2)] at h2
        by_cases z3 : zHg i op made amt lo hi ≤ B
        · rw [if_pos ((lg_cmp_ge _ _).mpr z3), eJ, zb_some, us] at h1
          rw [if_pos ((lg_cmp_ge _ _).mpr z3)] at h2
          by_cases z4 : E ≤ D
          · have z4' := Int64.le_iff_toInt_le.mp z4
            have d0 : (0 : Int64) ≤ D := Int64.le_iff_toInt_le.mpr (by rw [zl0]; omega)
            rw [if_pos ((lg_cmp_ge _ _).mpr z4), zAmtOf h14, zb_some, us, us, zMstOf f3 v, zb_some] at h1
            rw [if_neg (fun q => by have := Int64.lt_iff_toInt_lt.mp ((lg_cmp_lt _ _).mp q); omega), if_pos ((lg_cmp_ge _ _).mpr d0)] at h2
            obtain ⟨mo, hmo, h2⟩ := zb_s h2
            have hmo := zMostM hmo
            rw [us, us] at hmo
            simp only [zn] at h2
            rw [us, eti] at h2
            obtain ⟨-, h2⟩ := zg_s h2
            rw [← g3, hmo] at h2
            by_cases z5 : zMx (zAb A) (zAb B) + D ≤ (mst (mY1 i.toNatClampNeg).toNatClampNeg).toInt64
            · rw [if_pos ((lg_cmp_le _ _).mpr z5), zIsAns n3 hi', zb_some] at h1
              rw [if_pos ((lg_cmp_le _ _).mpr z5)] at h2
              obtain ⟨-, h2⟩ := zg_s h2
              rw [← q4] at h2
              have bM : (mst (mY1 i.toNatClampNeg).toNatClampNeg).toInt ≤ 1000000000 := by
                have := Int32.le_iff_toInt_le.mp g6.2
                rw [show (1000000000 : Int32).toInt = 1000000000 by decide +kernel] at this
                exact this
              have aA := zAb_i (x := A) (by omega)
              have aB := zAb_i (x := B) (by omega)
              have mm := zMx_i (zAb A) (zAb B)
              have ss := zoL_add (x := zMx (zAb A) (zAb B)) (y := D) rfl rfl rfl (by omega)
              have z5' := Int64.le_iff_toInt_le.mp z5
              rw [ss, z64_i] at z5'
              have yes : x = (0, upd ch (gof i.toNatClampNeg).toNatClampNeg (mY1 i.toNatClampNeg), vp_updL lo i.toNatClampNeg A, vp_updL hi i.toNatClampNeg B, vp_updL er i.toNatClampNeg D) → y = (0, upd tr i.toNatClampNeg (mY1 i.toNatClampNeg), vp_updL u.1 i.toNatClampNeg A, vp_updL u.2 i.toNatClampNeg B, vp_updL em' i.toNatClampNeg D) → x.1 = y.1 ∧ (x.1 = 0 → zKR cN cF (i + 1) gof gfx x.2.1 mG fx mY1 y.2.1 x.2.2.1 x.2.2.2.1 x.2.2.2.2 y.2.2.1 y.2.2.2.1 y.2.2.2.2) := by
                intro ex ey
                rw [ex, ey]
                refine ⟨rfl, fun _ => ⟨fun j j0 j1 => ?_, fun j j0 j1 j2 => ?_, fun j j0 j1 => ?_⟩⟩
                · obtain ⟨-, c2, c3, c4⟩ := C j j0 j1
                  show upd tr i.toNatClampNeg (mY1 i.toNatClampNeg) j.toNatClampNeg = mY1 j.toNatClampNeg ∧ (0 ≤ mY1 j.toNatClampNeg ∧ mY1 j.toNatClampNeg < cF) ∧ upd ch (gof i.toNatClampNeg).toNatClampNeg (mY1 i.toNatClampNeg) (gof j.toNatClampNeg).toNatClampNeg = mY1 j.toNatClampNeg ∧ _
                  have et : upd tr i.toNatClampNeg (mY1 i.toNatClampNeg) j.toNatClampNeg = mY1 j.toNatClampNeg := by
                    rw [zup R2 j0]
                    by_cases t : j = i
                    · rw [if_pos t, t]
                    · rw [if_neg t]; exact (K1 j j0 (by grind)).1
                  rw [et] at c2 c3 c4
                  refine ⟨et, ⟨c3, c4⟩, c2, fun o o0 o1 o2 => ?_⟩
                  by_cases t : j = i
                  · rw [t] at o2 ⊢
                    exact (sdx o o0 o1 o2).2
                  · exact (K1 j j0 (by grind)).2.2.2 o o0 o1 o2
                · show upd ch (gof i.toNatClampNeg).toNatClampNeg (mY1 i.toNatClampNeg) (gof j.toNatClampNeg).toNatClampNeg = gfx (gof j.toNatClampNeg).toNatClampNeg
                  have gj := zGofR n3 hg G ⟨j0, j1⟩
                  rw [zup gi.1 gj.1, if_neg (fun t => j2 i R2 (by grind) ((zGp_eq n3 hg G hi' ⟨j0, j1⟩).mp t.symm))]
                  exact K2 j j0 j1 (fun o o0 o1 => j2 o o0 (by grind))
                · show vp_updL er i.toNatClampNeg D j.toNatClampNeg = vp_updL em' i.toNatClampNeg D j.toNatClampNeg ∧ vp_updL u.1 i.toNatClampNeg A j.toNatClampNeg = vp_updL lo i.toNatClampNeg A j.toNatClampNeg ∧ vp_updL u.2 i.toNatClampNeg B j.toNatClampNeg = vp_updL hi i.toNatClampNeg B j.toNatClampNeg ∧ (0 ≤ (vp_updL er i.toNatClampNeg D j.toNatClampNeg).toInt ∧ (vp_updL er i.toNatClampNeg D j.toNatClampNeg).toInt ≤ 1000000000) ∧ (-1000000000 ≤ (vp_updL lo i.toNatClampNeg A j.toNatClampNeg).toInt ∧ (vp_updL lo i.toNatClampNeg A j.toNatClampNeg).toInt ≤ 1000000000) ∧ (-1000000000 ≤ (vp_updL hi i.toNatClampNeg B j.toNatClampNeg).toInt ∧ (vp_updL hi i.toNatClampNeg B j.toNatClampNeg).toInt ≤ 1000000000)
                  by_cases t : j = i
                  · subst t
                    rw [us, us, us, us, us, us]
                    refine ⟨rfl, rfl, rfl, ?_, ?_, ?_⟩ <;> omega
                  · have lt : j < i := by grind
                    rw [ul _ _ j j0 lt, ul _ _ j j0 lt, ul _ _ j j0 lt, ul _ _ j j0 lt, ul _ _ j j0 lt, ul _ _ j j0 lt, eem, ul _ _ j j0 lt, (elt j j0 lt).1, (elt j j0 lt).2]
                    exact K3 j j0 lt
              by_cases z6 : al i.toNatClampNeg = (-1)
              · rw [if_pos z6, if_pos rfl] at h1
                rw [if_pos z6] at h2
                exact yes (Option.some.inj h1).symm (Option.some.inj h2).symm
              · rw [if_neg z6, if_neg (show ¬ (1 : Int32) = 0 by decide)] at h1
                rw [if_neg z6] at h2
                by_cases z7 : D ≤ (al i.toNatClampNeg).toInt64
                · rw [if_pos ((lg_cmp_le _ _).mpr z7)] at h1 h2
                  exact yes (Option.some.inj h1).symm (Option.some.inj h2).symm
                · rw [if_neg (fun q => z7 ((lg_cmp_le _ _).mp q))] at h1 h2
                  exact no 6 (by decide) (by rw [← Option.some.inj h1]) (by rw [← Option.some.inj h2])
            · rw [if_neg (fun q => z5 ((lg_cmp_le _ _).mp q))] at h1 h2
              exact no 5 (by decide) (by rw [← Option.some.inj h1]) (by rw [← Option.some.inj h2])
          · rw [if_neg (fun q => z4 ((lg_cmp_ge _ _).mp q))] at h1
            have lt : D < E := by grind
            rw [if_pos ((lg_cmp_lt _ _).mpr lt)] at h2
            exact no 4 (by decide) (by rw [← Option.some.inj h1]) (by rw [← Option.some.inj h2])
        · rw [if_neg (fun q => z3 ((lg_cmp_ge _ _).mp q))] at h1 h2
          exact no 3 (by decide) (by rw [← Option.some.inj h1]) (by rw [← Option.some.inj h2])
      · rw [if_neg (fun q => z2 ((lg_cmp_le _ _).mp q))] at h1 h2
        exact no 2 (by decide) (by rw [← Option.some.inj h1]) (by rw [← Option.some.inj h2])
    · have h1 := zj_s ej h1
      try dsimp only at h1
      rw [zHasF, zb_some, if_neg (by rw [zif1]; exact fun q => q v), if_pos rfl] at h1
      have w0 : w = 0 := by
        rcases sd with ⟨_, _, s2⟩ | ⟨s1, _⟩
        · exact absurd ((ag v.1).mpr (sdc.mp s2)) g1
        · exact s1
      rw [if_pos w0] at h2
      exact bad (by rw [← Option.some.inj h1]) (by rw [← Option.some.inj h2])
  · have w0 : w = 0 := by
      rcases sd with ⟨_, s2, _⟩ | ⟨s1, _⟩
      · exact absurd s2 v
      · exact s1
    rw [if_pos w0] at h2
    have x1 : x.1 = 1 := by
      rcases main with ⟨_, h1⟩ | ⟨_, h1⟩
      · have h1 := zj_s ej h1
        try dsimp only at h1
        rw [zHasF, zb_some, if_pos (by rw [zif1]; exact v)] at h1
        rw [← Option.some.inj h1]
      · have h1 := zj_s ej h1
        try dsimp only at h1
        rw [zHasF, zb_some, if_pos (by rw [zif1]; exact v)] at h1
        rw [← Option.some.inj h1]
    exact bad x1 (by rw [← Option.some.inj h2])
/-! check, broken -/
noncomputable def zCkP (mRf : Nat → Int32) (r : Int32 × Int32 × Int32 × (Nat → Int32) × (Nat → Int64) × (Nat → Int64) × (Nat → Int64)) (y : Int32 × Int32 × Int32 × Int32 × Int32 × (Nat → Int32) × (Nat → Int32) × (Nat → Int64) × (Nat → Int64) × (Nat → Int64) × (Nat → Int32) × (Nat → Int64) × (Nat → Int64) × (Nat → Int64)) : Prop := r.1 = y.1 ∧ r.2.1 = y.2.2.2.1 ∧ r.2.2.1 = y.2.2.2.2.1 ∧ (r.1 = 1 ∧ y.2.2.2.2.2.1 = mRf ∨ r.1 = 0 ∧ y.2.2.2.2.2.1 = upd mRf (3 : Int32).toNatClampNeg (mRf (3 : Int32).toNatClampNeg + 1))
set_option maxHeartbeats 8000000 in
theorem zHolds {cF cc cN inp gc gfr gcl mWn : Int32} {nF nN stp mst prc al made amt op fx jn lets gof gfx gld mF mN mCst mNF mNN mS mM mC mW mO m1 m2 mX mG mT mTr mRf mY1 : Nat → Int32} {mA mB mLe mGe mEr mY2 mY3 mY4 : Nat → Int64} {mWb : Int64} {u w : Int32} {ch tp : Nat → Int32} {sl sh se : Nat → Int64} {r : Int32 × Int32 × Int32 × (Nat → Int32) × (Nat → Int64) × (Nat → Int64) × (Nat → Int64)} {y : Int32 × Int32 × Int32 × Int32 × Int32 × (Nat → Int32) × (Nat → Int32) × (Nat → Int64) × (Nat → Int64) × (Nat → Int64) × (Nat → Int32) × (Nat → Int64) × (Nat → Int64) × (Nat → Int64)} (hl : u = w) (T : zTN cF cc cN inp nF nN stp mst prc al made amt op fx jn lets mF mN mNF mNN mS mM mC mW mCst mO m1 m2 mX mG mA mB) (G : zGp cN gc gfr gcl gof gfx gld fx mG) (ht : zTp tp mT) (h1 : fn_X0_holds u cF cN tp gc ch gfx gof sl sh se op made amt stp mst al = some r) (h2 : fn_X12_check w mWn mWb mN mRf mT mY1 mY2 mY3 mY4 mF mG mX mTr mO m1 m2 mLe mA mB mGe mS mEr mM mW = some y) : zCkP mRf r y := by
  have T0 := T
  obtain ⟨⟨f1, f2, f3⟩, ⟨n1, n2, n3⟩, hC, hz, hp, hI, hff, hn, hg⟩ := T
  subst hl
  unfold fn_X0_holds at h1
  unfold fn_X12_check at h2
  have e0 : fn_X0_forget = some (-1, -1) := rfl
  rw [e0, zb_some] at h1
  rw [zn01.1, n1] at h2
  have no : r = (0, -1, -1, ch, sl, sh, se) → (∃ z, fn_X12_isRefused 3 mRf = some z ∧ y.1 = z.1 ∧ y.2.2.2.1 = (-1) ∧ y.2.2.2.2.1 = (-1) ∧ y.2.2.2.2.2.1 = z.2) → zCkP mRf r y := by
    intro a ⟨z, z1, z2, z3, z4, z5⟩
    rw [zrefB z1] at z2 z5
    rw [a]
    exact ⟨z2.symm, z3.symm, z4.symm, Or.inr ⟨rfl, z5⟩⟩
  by_cases c : cN = 0
  · rw [if_pos c] at h1 h2
    obtain ⟨z, z1, h2⟩ := zb_s h2
    exact no (Option.some.inj h1).symm ⟨z, z1, by rw [← Option.some.inj h2], by rw [← Option.some.inj h2], by rw [← Option.some.inj h2], by rw [← Option.some.inj h2]⟩
  · rw [if_neg c] at h1 h2
    by_cases d : u = 25 * cN
    · rw [if_pos d] at h1 h2
      rw [if_pos (show u ≤ 1200 by rw [d]; grind)] at h1
      obtain ⟨fl, hfl, h1⟩ := zb_s h1
      have gb := zRk_b (G := mG) (p := cN) n2 n3
      rw [← G.1.1] at gb
      have fr := zFillF ⟨gb.1, by grind⟩ hfl
      refine zl_ip (P := fun y => zCkP mRf r y) (fun s => 0 ≤ s.1 ∧ s.1 ≤ cN ∧ ∀ j : Int32, 0 ≤ j → j < s.1 → s.2.1 j.toNatClampNeg = mT (25 * j).toNatClampNeg ∧ fn_X12_readsLong (25 * j + 1) mT = some (s.2.2.1 j.toNatClampNeg) ∧ fn_X12_readsLong (25 * j + 9) mT = some (s.2.2.2.1 j.toNatClampNeg) ∧ fn_X12_readsLong (25 * j + 17) mT = some (s.2.2.2.2 j.toNatClampNeg)) ?_ _ _ _ ?_ h2
      rotate_left
      · exact ⟨(show (0 : Int32) ≤ 0 by decide), n2, fun j j0 j1 => absurd j1 (by show ¬ j < 0; grind)⟩
      intro s back o ⟨H1, H2, H3⟩ hb ho
      obtain ⟨k, Y1, Y2, Y3, Y4⟩ := s
      dsimp only at H1 H2 H3
      by_cases e : cN ≤ k
      · rw [if_pos e] at ho
        have ek : k = cN := by grind
        subst ek
        refine zl_ip2 (P := fun r y => zCkP mRf r y) (fun s t => t.1 = s.1 ∧ 0 ≤ s.1 ∧ s.1 ≤ k ∧ zKR k cF s.1 gof gfx s.2.1 mG fx Y1 t.2.2.2.1 s.2.2.2.1 s.2.2.2.2 s.2.2.1 t.2.1 t.2.2.1 t.2.2.2.2) ?_ _ _ _ _ _ _ ⟨rfl, (show (0 : Int32) ≤ 0 by decide), n2, ?_⟩ h1 ho
        · intro s t k1 k2 o1 o2 ⟨R1, R2, R3, R4⟩ hb2 ho1 ho2
          by_cases q : k ≤ s.1
          · rw [if_pos q] at ho1
            rw [R1, if_pos q] at ho2
            rw [← Option.some.inj ho1, ← Option.some.inj ho2]
            exact ⟨rfl, rfl, rfl, Or.inl ⟨rfl, rfl⟩⟩
          · rw [if_neg q] at ho1
            rw [R1, if_neg q] at ho2
            obtain ⟨-, ho1⟩ := zg_s ho1
            obtain ⟨a, ha, ho1⟩ := zb_s ho1
            obtain ⟨b, hb', ho2⟩ := zb_s ho2
            obtain ⟨y1, y2, y3, y4⟩ := H3 s.1 R2 (by grind)
            have fm : tp (s.1 * 25).toNatClampNeg &&& 255 = Y1 s.1.toNatClampNeg := by rw [zTp_b ht, Int32.mul_comm, y1]
            obtain ⟨z1, z2⟩ := zBrk T0 G ht R4 ⟨R2, by grind⟩ fm y2 y3 y4 ha hb'
            by_cases v : a.1 = 0
            · rw [if_pos v] at ho1
              rw [if_pos (z1.symm.trans v)] at ho2
              refine hb2 _ _ _ _ ?_ ho1 ho2
              exact ⟨rfl, (show 0 ≤ s.1 + 1 by grind), (show s.1 + 1 ≤ k by grind), z2 v⟩
            · rw [if_neg v] at ho1
              rw [if_neg (fun q => v (z1.trans q))] at ho2
              obtain ⟨z, hz9, ho2⟩ := zb_s ho2
              have hz9 := zrefB hz9
              rw [← Option.some.inj ho1, ← Option.some.inj ho2, hz9]
              exact ⟨rfl, rfl, z1, Or.inr ⟨rfl, rfl⟩⟩
        · have no0 : ∀ i : Int32, 0 ≤ i → ¬ i < 0 := fun i h q => by grind
          refine ⟨fun j j0 j1 => absurd j1 (no0 j j0), fun j j0 j1 _ => ?_, fun j j0 j1 => absurd j1 (no0 j j0)⟩
          show fl (gof j.toNatClampNeg).toNatClampNeg = gfx (gof j.toNatClampNeg).toNatClampNeg
          obtain ⟨l1, l2, l3⟩ := hg.1 j j0 j1
          have b0 := zGofR n3 hg G ⟨j0, j1⟩
          have b1 := zRk_lt (G := mG) l1 (show mG j.toNatClampNeg < k by grind) n3 l3
          rw [← G.1.1, ← G.1.2.1 j j0 j1] at b1
          rw [fr _ b0.1 b1]
          by_cases v : gfx (gof j.toNatClampNeg).toNatClampNeg = (-1)
          · rw [if_pos v, v]
          · rw [if_neg v]
      · rw [if_neg e] at ho
        obtain ⟨-, ho⟩ := zg_s ho
        obtain ⟨-, ho⟩ := zg_s ho
        simp only [zn] at ho
        obtain ⟨a, ha, ho⟩ := zb_s ho
        obtain ⟨b, hb', ho⟩ := zb_s ho
        obtain ⟨c, hc, ho⟩ := zb_s ho
        refine hb _ _ ?_ ho
        refine ⟨(show 0 ≤ k + 1 by grind), (show k + 1 ≤ cN by grind), fun j j0 j1 => ?_⟩
        have j1 : j < k + 1 := j1
        show upd Y1 k.toNatClampNeg (mT (25 * k).toNatClampNeg) j.toNatClampNeg = mT (25 * j).toNatClampNeg ∧ fn_X12_readsLong (25 * j + 1) mT = some (vp_updL Y2 k.toNatClampNeg a j.toNatClampNeg) ∧ fn_X12_readsLong (25 * j + 9) mT = some (vp_updL Y3 k.toNatClampNeg b j.toNatClampNeg) ∧ fn_X12_readsLong (25 * j + 17) mT = some (vp_updL Y4 k.toNatClampNeg c j.toNatClampNeg)
        rw [zup H1 j0, zupL H1 j0, zupL H1 j0, zupL H1 j0]
        by_cases q : j = k
        · rw [if_pos q, if_pos q, if_pos q, if_pos q, q]
          exact ⟨rfl, ha, hb', hc⟩
        · rw [if_neg q, if_neg q, if_neg q, if_neg q]
          exact H3 j j0 (by grind)
    · rw [if_neg d] at h1 h2
      obtain ⟨z, z1, h2⟩ := zb_s h2
      exact no (Option.some.inj h1).symm ⟨z, z1, by rw [← Option.some.inj h2], by rw [← Option.some.inj h2], by rw [← Option.some.inj h2], by rw [← Option.some.inj h2]⟩
theorem zeq_check {cF cc cN inp gc gfr gcl mWn : Int32} {nF nN stp mst prc al made amt op fx jn lets gof gfx gld mF mN mCst mNF mNN mS mM mC mW mO m1 m2 mX mG mT mTr mRf mY1 rf : Nat → Int32} {mA mB mLe mGe mEr mY2 mY3 mY4 : Nat → Int64} {mWb : Int64} {u w : Int32} {ch tp : Nat → Int32} {sl sh se : Nat → Int64} {x : Int32 × Int32 × Int32 × Int32 × (Nat → Int32) × (Nat → Int64) × (Nat → Int64) × (Nat → Int64) × (Nat → Int32)} {y : Int32 × Int32 × Int32 × Int32 × Int32 × (Nat → Int32) × (Nat → Int32) × (Nat → Int64) × (Nat → Int64) × (Nat → Int64) × (Nat → Int32) × (Nat → Int64) × (Nat → Int64) × (Nat → Int64)} (hl : u = w) (T : zTN cF cc cN inp nF nN stp mst prc al made amt op fx jn lets mF mN mNF mNN mS mM mC mW mCst mO m1 m2 mX mG mA mB) (G : zGp cN gc gfr gcl gof gfx gld fx mG) (ht : zTp tp mT) (h1 : fn_X11_check u cF cN tp gc ch gfx gof sl sh se op made amt stp mst al rf = some x) (h2 : fn_X12_check w mWn mWb mN mRf mT mY1 mY2 mY3 mY4 mF mG mX mTr mO m1 m2 mLe mA mB mGe mS mEr mM mW = some y) : x.1 = y.1 ∧ x.2.2.1 = y.2.2.2.1 ∧ x.2.2.2.1 = y.2.2.2.2.1 ∧ (rf = mRf → x.2.2.2.2.2.2.2.2 = y.2.2.2.2.2.1) := by
  unfold fn_X11_check at h1
  obtain ⟨r, hr, h1⟩ := zb_s h1
  obtain ⟨c1, c2, c3, c4⟩ := zHolds hl T G ht hr h2
  rcases c4 with ⟨v, c5⟩ | ⟨v, c5⟩
  · rw [if_neg (by rw [v]; decide)] at h1
    rw [← Option.some.inj h1]
    exact ⟨v.symm.trans c1, c2, c3, fun q => by show rf = _; rw [c5]; exact q⟩
  · rw [if_pos v] at h1
    obtain ⟨z, hz, h1⟩ := zb_s h1
    have hz := zref (by decide) hz
    rw [← Option.some.inj h1, hz]
    exact ⟨v.symm.trans c1, c2, c3, fun q => by show upd rf _ _ = _; rw [c5, q]⟩
theorem zeq_broken {mBa mBw : Int32} {p1 ba bw x y : Int32} (e1 : ba = mBa) (e2 : bw = mBw) (h1 : fn_X11_broken p1 ba bw = some x) (h2 : fn_X12_broken p1 mBa mBw = some y) : x = y := by
  subst e1 e2
  unfold fn_X11_broken at h1
  unfold fn_X12_broken at h2
  exact Option.some.inj (h1.symm.trans h2)
theorem zBr_task {mF mN mNF mNN mS mM mC mW mCst mO m1 m2 mX mG : Nat → Int32} {mA mB : Nat → Int64} {a1 a2 a3 ba bw mHh mBa mBw : Int32} {r1 r2 r3 r4 r5 r6 s1 s2 : Nat → Int32} {l1 l2 : Nat → Int64} {x : Int32 × Int32 × Int32 × Int32 × Int32 × Int32 × Int32 × Int32 × Int32 × Int32 × Int32 × Int32 × Int32 × Int32 × Int32 × Int32 × Int32 × (Nat → Int32) × (Nat → Int32) × (Nat → Int32) × (Nat → Int32) × (Nat → Int32) × (Nat → Int32) × (Nat → Int32) × (Nat → Int32) × (Nat → Int32) × (Nat → Int32) × (Nat → Int32) × (Nat → Int32) × Int32 × Int32 × Int32 × (Nat → Int32) × (Nat → Int32) × (Nat → Int32) × (Nat → Int64) × (Nat → Int64) × (Nat → Int32) × (Nat → Int32) × Int32 × Int32 × Int32 × Int32 × Int32 × (Nat → Int32)} {y : Int32 × Int32 × Int32 × Int64 × Int32 × Int32 × Int32 × Int32 × Int32 × Int32 × Int32 × Int32 × Int32 × Int32 × (Nat → Int32) × (Nat → Int32) × (Nat → Int32) × (Nat → Int32) × (Nat → Int32) × (Nat → Int32) × (Nat → Int32) × (Nat → Int32) × (Nat → Int32) × (Nat → Int32) × (Nat → Int32) × (Nat → Int32) × (Nat → Int32) × (Nat → Int32) × (Nat → Int64) × (Nat → Int64) × (Nat → Int32) × (Nat → Int32)} (e : ba = mBa ∧ bw = mBw) (Q : zTQ a1 a2 a3 ba bw r1 r2 r3 r4 r5 r6 l1 l2 mHh mBa mBw s1 s2 mF mN mNF mNN mS mM mC mW mCst mO m1 m2 mX mG mA mB x y) : x.2.2.2.2.2.2.2.2.2.2.2.2.2.2.2.2.2.2.2.2.2.2.2.2.2.2.2.2.2.2.2.2.2.2.2.2.2.2.2.2.2.2.1 = y.2.2.2.2.2.2.2.2.1 ∧ x.2.2.2.2.2.2.2.2.2.2.2.2.2.2.2.2.2.2.2.2.2.2.2.2.2.2.2.2.2.2.2.2.2.2.2.2.2.2.2.2.2.2.2.1 = y.2.2.2.2.2.2.2.2.2.1 := by
  rcases Q with ⟨_, _, _, _, _, _, q1, q2, q3, q4, _⟩ | ⟨_, _, _, _, _, _, _, q1, q2, q3, q4, _⟩
  · exact ⟨by rw [q1, q3]; exact e.1, by rw [q2, q4]; exact e.2⟩
  · exact ⟨by rw [q1, q3], by rw [q2, q4]⟩
