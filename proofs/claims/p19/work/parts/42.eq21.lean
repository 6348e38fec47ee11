/-! RANGES: the class lays them once, held; the reference each time, as far as they are not great -/
noncomputable def zHd (x : Int64) : Int64 := if (if x < 2000000000 then x else 2000000000) < -2000000000 then -2000000000 else (if x < 2000000000 then x else 2000000000)
theorem zHeld (x : Int64) : fn_X6_held x = some (zHd x) := rfl
theorem zAmtOf {i : Int32} {f g : Nat → Int64} (hi : 0 ≤ i ∧ i < 14) : fn_X6_amountOf i f g = some (zMx (zAb (f i.toNatClampNeg)) (zAb (g i.toNatClampNeg))) := by
  unfold fn_X6_amountOf
  rw [zg_in 14 (by decide +kernel) hi]
  rfl
theorem zMostM {i : Int32} {f g : Nat → Int64} {x : Int64} (h : fn_X12_mostOf i f g = some x) : x = zMx (zAb (f i.toNatClampNeg)) (zAb (g i.toNatClampNeg)) := by
  unfold fn_X12_mostOf at h
  obtain ⟨-, h⟩ := zg_s h
  simp only [zAmo, zGre, zb_some] at h
  exact (Option.some.inj h).symm
theorem zMx_gt (a b c : Int64) : c < zMx a b ↔ c < a ∨ c < b := by
  unfold zMx
  grind
noncomputable def zWd (w : Nat → Int32) (m : Int32) : Prop := ¬ m = (-1) ∧ ¬ w m.toNatClampNeg = 0
theorem zIsWide {m : Int32} {w : Nat → Int32} (hm : (-1) ≤ m ∧ m < 14) {x : Int32} (h : fn_X6_isWide m w = some x) : x = 0 ∧ ¬ zWd w m ∨ x = 1 ∧ zWd w m := by
  unfold fn_X6_isWide at h
  by_cases c : m < 0
  · rw [if_pos c] at h
    exact Or.inl ⟨(Option.some.inj h).symm, fun q => q.1 (by grind)⟩
  · rw [if_neg c, if_neg (by grind)] at h
    obtain ⟨-, h⟩ := zg_s h
    by_cases d : w m.toNatClampNeg = 0
    · rw [if_pos d] at h
      exact Or.inl ⟨(Option.some.inj h).symm, fun q => q.2 d⟩
    · rw [if_neg d] at h
      exact Or.inr ⟨(Option.some.inj h).symm, by grind, d⟩
theorem zVal_c {m a : Int32} {lo lo' : Nat → Int64} (h : m = (-1) ∨ lo' m.toNatClampNeg = lo m.toNatClampNeg) : zVal m a lo' = zVal m a lo := by
  unfold zVal
  rcases h with h | h
  · rw [if_pos h, if_pos h]
  · rw [h]
theorem zLw_c {i : Int32} {op made amt : Nat → Int32} {lo hi lo' hi' : Nat → Int64} (h0 : made (2 * i + 0).toNatClampNeg = (-1) ∨ (lo' (made (2 * i + 0).toNatClampNeg).toNatClampNeg = lo (made (2 * i + 0).toNatClampNeg).toNatClampNeg ∧ hi' (made (2 * i + 0).toNatClampNeg).toNatClampNeg = hi (made (2 * i + 0).toNatClampNeg).toNatClampNeg)) (h1 : made (2 * i + 1).toNatClampNeg = (-1) ∨ (lo' (made (2 * i + 1).toNatClampNeg).toNatClampNeg = lo (made (2 * i + 1).toNatClampNeg).toNatClampNeg ∧ hi' (made (2 * i + 1).toNatClampNeg).toNatClampNeg = hi (made (2 * i + 1).toNatClampNeg).toNatClampNeg)) : zLw i op made amt lo' hi' = zLw i op made amt lo hi ∧ zHg i op made amt lo' hi' = zHg i op made amt lo hi := by
  have a0 : zVal (made (2 * i + 0).toNatClampNeg) (amt (2 * i + 0).toNatClampNeg) lo' = zVal (made (2 * i + 0).toNatClampNeg) (amt (2 * i + 0).toNatClampNeg) lo := zVal_c (h0.imp id (fun q => q.1))
  have a1 : zVal (made (2 * i + 0).toNatClampNeg) (amt (2 * i + 0).toNatClampNeg) hi' = zVal (made (2 * i + 0).toNatClampNeg) (amt (2 * i + 0).toNatClampNeg) hi := zVal_c (h0.imp id (fun q => q.2))
  have b0 : zVal (made (2 * i + 1).toNatClampNeg) (amt (2 * i + 1).toNatClampNeg) lo' = zVal (made (2 * i + 1).toNatClampNeg) (amt (2 * i + 1).toNatClampNeg) lo := zVal_c (h1.imp id (fun q => q.1))
  have b1 : zVal (made (2 * i + 1).toNatClampNeg) (amt (2 * i + 1).toNatClampNeg) hi' = zVal (made (2 * i + 1).toNatClampNeg) (amt (2 * i + 1).toNatClampNeg) hi := zVal_c (h1.imp id (fun q => q.2))
  unfold zLw zHg
  rw [a0, a1, b0, b1]
  exact ⟨rfl, rfl⟩
theorem zLw_b {i : Int32} {op made amt : Nat → Int32} {lo hi lo' hi' : Nat → Int64} (hk : zOk i op made) (h : ∀ j : Int32, 0 ≤ j → j < i → lo' j.toNatClampNeg = lo j.toNatClampNeg ∧ hi' j.toNatClampNeg = hi j.toNatClampNeg) : zLw i op made amt lo' hi' = zLw i op made amt lo hi ∧ zHg i op made amt lo' hi' = zHg i op made amt lo hi := by
  obtain ⟨k1, k2, k3, k4⟩ := hk
  refine zLw_c ?_ ?_
  · by_cases c : made (2 * i + 0).toNatClampNeg = (-1)
    · exact Or.inl c
    · exact Or.inr (h _ (by grind) k2.2)
  · by_cases c : made (2 * i + 1).toNatClampNeg = (-1)
    · exact Or.inl c
    · exact Or.inr (h _ (by grind) k3.2)
noncomputable def zRN1 (i inp : Int32) (more : Int64) (op made amt rwd : Nat → Int32) (rlo rhi : Nat → Int64) : Prop := rlo i.toNatClampNeg = zHd (zLw i op made amt rlo rhi - (if i = inp then more else 0)) ∧ rhi i.toNatClampNeg = zHd (zHg i op made amt rlo rhi + (if i = inp then more else 0)) ∧ (rwd i.toNatClampNeg = 1 ∧ (1000000000 < zMx (zAb (rlo i.toNatClampNeg)) (zAb (rhi i.toNatClampNeg)) ∨ zWd rwd (made (2 * i + 0).toNatClampNeg) ∨ zWd rwd (made (2 * i + 1).toNatClampNeg)) ∨ rwd i.toNatClampNeg = 0 ∧ ¬ (1000000000 < zMx (zAb (rlo i.toNatClampNeg)) (zAb (rhi i.toNatClampNeg)) ∨ zWd rwd (made (2 * i + 0).toNatClampNeg) ∨ zWd rwd (made (2 * i + 1).toNatClampNeg)))
noncomputable def zRN (cN inp : Int32) (more : Int64) (op made amt rwd : Nat → Int32) (rlo rhi : Nat → Int64) : Prop := ∀ i : Int32, 0 ≤ i → i < cN → zRN1 i inp more op made amt rwd rlo rhi
theorem zWd_c {w w' : Nat → Int32} {m : Int32} (h : m = (-1) ∨ w' m.toNatClampNeg = w m.toNatClampNeg) : zWd w' m ↔ zWd w m := by
  unfold zWd
  rcases h with h | h
  · exact ⟨fun q => absurd h q.1, fun q => absurd h q.1⟩
  · rw [h]
theorem zRN1_c {i inp : Int32} {more : Int64} {op made amt w w' : Nat → Int32} {lo hi lo' hi' : Nat → Int64} (i0 : 0 ≤ i) (hk : zOk i op made) (h : ∀ j : Int32, 0 ≤ j → j < i + 1 → lo' j.toNatClampNeg = lo j.toNatClampNeg ∧ hi' j.toNatClampNeg = hi j.toNatClampNeg ∧ w' j.toNatClampNeg = w j.toNatClampNeg) (i1 : i < 14) (H : zRN1 i inp more op made amt w lo hi) : zRN1 i inp more op made amt w' lo' hi' := by
  obtain ⟨e1, e2⟩ := zLw_b (amt := amt) hk (fun j j0 j1 => ⟨(h j j0 (by grind)).1, (h j j0 (by grind)).2.1⟩)
  obtain ⟨f1, f2, f3⟩ := h i i0 (by grind)
  obtain ⟨k1, k2, k3, k4⟩ := hk
  have g0 : zWd w' (made (2 * i + 0).toNatClampNeg) ↔ zWd w (made (2 * i + 0).toNatClampNeg) := zWd_c (by
    by_cases c : made (2 * i + 0).toNatClampNeg = (-1)
    · exact Or.inl c
    · exact Or.inr (h _ (by grind) (by grind)).2.2)
  have g1 : zWd w' (made (2 * i + 1).toNatClampNeg) ↔ zWd w (made (2 * i + 1).toNatClampNeg) := zWd_c (by
    by_cases c : made (2 * i + 1).toNatClampNeg = (-1)
    · exact Or.inl c
    · exact Or.inr (h _ (by grind) (by grind)).2.2)
  unfold zRN1
  rw [e1, e2, f1, f2, f3, g0, g1]
  exact H
set_option maxHeartbeats 4000000 in
theorem zFill {cN p2 p3 : Int32} {op made amt wd : Nat → Int32} {lo hi : Nat → Int64} {x : (Nat → Int64) × (Nat → Int64) × (Nat → Int32)} (hN : 0 ≤ cN ∧ cN ≤ 14) (hk : ∀ i : Int32, 0 ≤ i → i < cN → zOk i op made) (h : fn_X6_fill p2 p3 cN op made amt lo hi wd = some x) : zRN cN p2 p3.toInt64 op made amt x.2.2 x.1 x.2.1 := by
  unfold fn_X6_fill at h
  refine zl_ip (P := fun x : (Nat → Int64) × (Nat → Int64) × (Nat → Int32) => zRN cN p2 p3.toInt64 op made amt x.2.2 x.1 x.2.1) (fun s => 0 ≤ s.1 ∧ s.1 ≤ cN ∧ zRN s.1 p2 p3.toInt64 op made amt s.2.2.2 s.2.1 s.2.2.1) ?_ _ _ _ ?_ h
  rotate_left
  · exact ⟨(show (0 : Int32) ≤ 0 by decide), hN.1, fun i i0 i1 => absurd i1 (by show ¬ i < 0; grind)⟩
  intro s back o ⟨H1, H2, H3⟩ hb ho
  obtain ⟨i, lo, hi, wd⟩ := s
  dsimp only at H1 H2 H3 ho
  by_cases c : cN ≤ i
  · rw [if_pos c] at ho
    have e : i = cN := by grind
    subst e
    rw [← Option.some.inj ho]
    exact H3
  · rw [if_neg c] at ho
    have hi' : 0 ≤ i ∧ i < cN := ⟨H1, by grind⟩
    have h14 : 0 ≤ i ∧ i < 14 := ⟨H1, by grind⟩
    have ok := hk i hi'.1 hi'.2
    obtain ⟨j, ej, ho⟩ := zj_g ho
    try dsimp only at ho
    have ho : j (if i = p2 then p3.toInt64 else 0) = some o := by
      by_cases q : i = p2
      · rw [if_pos q] at ho ⊢; exact ho
      · rw [if_neg q] at ho ⊢; exact ho
    have ho := zj_s ej ho
    try dsimp only at ho
    clear ej
    rw [zLwJ hN.2 hi' ok, zb_some, zHeld, zb_some] at ho
    obtain ⟨-, ho⟩ := zg_s ho
    rw [zHgJ hN.2 hi' ok, zb_some, zHeld, zb_some, zAmtOf h14, zb_some] at ho
    generalize hm : (if i = p2 then p3.toInt64 else 0) = more at ho
    generalize hA : zHd (zLw i op made amt lo hi - more) = A at ho
    have eH := (zLw_b (amt := amt) (lo := lo) (hi := hi) (lo' := vp_updL lo i.toNatClampNeg A) (hi' := hi) ok (fun j j0 j1 => ⟨by rw [zupL H1 j0, if_neg (by grind)], rfl⟩)).2
    rw [eH] at ho
    generalize hB : zHd (zHg i op made amt lo hi + more) = B at ho
    have fin : ∀ v : Int32, (v = 1 ∧ (1000000000 < zMx (zAb A) (zAb B) ∨ zWd wd (made (2 * i + 0).toNatClampNeg) ∨ zWd wd (made (2 * i + 1).toNatClampNeg)) ∨ v = 0 ∧ ¬ (1000000000 < zMx (zAb A) (zAb B) ∨ zWd wd (made (2 * i + 0).toNatClampNeg) ∨ zWd wd (made (2 * i + 1).toNatClampNeg))) → back (i + 1, vp_updL lo i.toNatClampNeg A, vp_updL hi i.toNatClampNeg B, upd wd i.toNatClampNeg v) = some o → zRN cN p2 p3.toInt64 op made amt o.2.2 o.1 o.2.1 := by
      intro v hv hbk
      refine hb _ _ ?_ hbk
      refine ⟨(show 0 ≤ i + 1 by grind), (show i + 1 ≤ cN by grind), fun j j0 j1 => ?_⟩
      have j1 : j < i + 1 := j1
      show zRN1 j p2 p3.toInt64 op made amt (upd wd i.toNatClampNeg v) (vp_updL lo i.toNatClampNeg A) (vp_updL hi i.toNatClampNeg B)
      by_cases q : j = i
      · subst q
        have nn : ∀ m : Int32, 0 ≤ m → m < j → vp_updL lo j.toNatClampNeg A m.toNatClampNeg = lo m.toNatClampNeg ∧ vp_updL hi j.toNatClampNeg B m.toNatClampNeg = hi m.toNatClampNeg := fun m m0 m1 => ⟨by rw [zupL H1 m0, if_neg (by grind)], by rw [zupL H1 m0, if_neg (by grind)]⟩
        obtain ⟨e1, e2⟩ := zLw_b (amt := amt) ok nn
        obtain ⟨k1, k2, k3, k4⟩ := ok
        have g0 : zWd (upd wd j.toNatClampNeg v) (made (2 * j + 0).toNatClampNeg) ↔ zWd wd (made (2 * j + 0).toNatClampNeg) := zWd_c (by
          by_cases c : made (2 * j + 0).toNatClampNeg = (-1)
          · exact Or.inl c
          · exact Or.inr (by rw [zup H1 (by grind), if_neg (by grind)]))
        have g1 : zWd (upd wd j.toNatClampNeg v) (made (2 * j + 1).toNatClampNeg) ↔ zWd wd (made (2 * j + 1).toNatClampNeg) := zWd_c (by
          by_cases c : made (2 * j + 1).toNatClampNeg = (-1)
          · exact Or.inl c
          · exact Or.inr (by rw [zup H1 (by grind), if_neg (by grind)]))
        unfold zRN1
        rw [e1, e2, g0, g1, zupL H1 H1, zupL H1 H1, zup H1 H1, if_pos rfl, if_pos rfl, if_pos rfl, hm]
        exact ⟨hA.symm, hB.symm, hv⟩
      · have lt : j < i := by grind
        refine zRN1_c j0 (hk j j0 (by grind)) (fun m m0 m1 => ?_) (by grind) (H3 j j0 lt)
        have ne : ¬ m = i := by grind
        rw [zupL H1 m0, zupL H1 m0, zup H1 m0, if_neg ne, if_neg ne, if_neg ne]
        exact ⟨rfl, rfl, rfl⟩
    rw [zupL H1 H1, zupL H1 H1, if_pos rfl, if_pos rfl] at ho
    by_cases d : 1000000000 < zMx (zAb A) (zAb B)
    · rw [if_pos ((lg_cmp_gt _ _).mpr d)] at ho
      exact fin _ (Or.inl ⟨rfl, Or.inl d⟩) ho
    · rw [if_neg (fun q => d ((lg_cmp_gt _ _).mp q)), zMade0 hN.2 hi', zb_some] at ho
      obtain ⟨w0, hw0, ho⟩ := zb_s ho
      rcases zIsWide ⟨ok.2.1.1, by have := ok.2.1.2; grind⟩ hw0 with ⟨z1, z2⟩ | ⟨z1, z2⟩
      · rw [if_pos z1, zMade1 hN.2 hi', zb_some] at ho
        obtain ⟨w1, hw1, ho⟩ := zb_s ho
        rcases zIsWide ⟨ok.2.2.1.1, by have := ok.2.2.1.2; grind⟩ hw1 with ⟨y1, y2⟩ | ⟨y1, y2⟩
        · rw [if_pos y1] at ho
          exact fin _ (Or.inr ⟨rfl, fun q => q.elim d (fun q => q.elim z2 y2)⟩) ho
        · rw [if_neg (by rw [y1]; decide)] at ho
          exact fin _ (Or.inl ⟨rfl, Or.inr (Or.inr y2)⟩) ho
      · rw [if_neg (by rw [z1]; decide)] at ho
        exact fin _ (Or.inl ⟨rfl, Or.inr (Or.inl z2)⟩) ho
/-! how far both ends may go -/
theorem zAb_le {x c : Int64} (hc : 0 ≤ c) (h : ¬ c < zAb x) (hx : -9223372036854775808 < x) : -c ≤ x ∧ x ≤ c := by
  unfold zAb at h
  by_cases d : 0 < x
  · rw [if_pos d] at h
    constructor <;> grind
  · rw [if_neg d] at h
    constructor <;> grind
theorem zHd_b (x : Int64) : -2000000000 ≤ zHd x ∧ zHd x ≤ 2000000000 := by
  unfold zHd
  constructor <;> grind
theorem zHd_in {x : Int64} (h : -2000000000 ≤ x ∧ x ≤ 2000000000) : zHd x = x := by
  unfold zHd
  grind
theorem zHd_w {x : Int64} (hx : -9223372036854775808 < x) : 1000000000 < zAb (zHd x) ↔ 1000000000 < zAb x := by
  by_cases h : -2000000000 ≤ x ∧ x ≤ 2000000000
  · rw [zHd_in h]
  · have e : zHd x = 2000000000 ∧ 2000000000 < x ∨ zHd x = -2000000000 ∧ x < -2000000000 := by
      unfold zHd
      grind
    rcases e with ⟨e1, e2⟩ | ⟨e1, e2⟩
    · rw [e1]
      unfold zAb
      rw [if_pos (by decide), if_pos (by grind)]
      exact ⟨fun _ => by grind, fun _ => by decide⟩
    · rw [e1]
      unfold zAb
      rw [if_neg (by decide), if_neg (by grind)]
      exact ⟨fun _ => by grind, fun _ => by decide⟩
theorem zdv2000 (x : Int64) : -4611686018427388 ≤ x / 2000 ∧ x / 2000 ≤ 4611686018427388 := by
  have e : (x / 2000).toInt = x.toInt.tdiv 2000 := by
    rw [Int64.toInt_div_of_ne_right]
    · rfl
    · decide
  have h1 := Int64.toInt_lt x
  have h2 := Int64.le_toInt x
  have h3 : -4611686018427388 ≤ x.toInt.tdiv 2000 ∧ x.toInt.tdiv 2000 ≤ 4611686018427388 := by
    by_cases c : 0 ≤ x.toInt
    · rw [Int.tdiv_eq_ediv_of_nonneg c]
      omega
    · have := Int.tdiv_eq_ediv_of_nonneg (a := -x.toInt) (b := 2000) (by omega)
      rw [Int.neg_tdiv] at this
      omega
  refine ⟨Int64.le_iff_toInt_le.mpr ?_, Int64.le_iff_toInt_le.mpr ?_⟩
  · rw [e, show (-4611686018427388 : Int64).toInt = -4611686018427388 by decide +kernel]
    exact h3.1
  · rw [e, show (4611686018427388 : Int64).toInt = 4611686018427388 by decide +kernel]
    exact h3.2
theorem zPr_b (a b : Int64) : -5000000000000000 ≤ zPr a b 1 ∧ zPr a b 1 ≤ 5000000000000000 := by
  unfold zPr zFd
  rw [show (2000 * 1 : Int64) = 2000 by decide]
  have h := zdv2000 (2 * a * b + 1000 * 1)
  generalize (2 * a * b + 1000 * 1) = x at h ⊢
  generalize x / 2000 = q at h ⊢
  by_cases c : x - q * 2000 = 0
  · rw [if_pos c, Int64.mul_one]
    constructor <;> grind
  · rw [if_neg c]
    by_cases d : 0 ≤ x
    · rw [if_pos d, Int64.mul_one]
      constructor <;> grind
    · rw [if_neg d, Int64.mul_one]
      constructor <;> grind
theorem zVal_r {m a : Int32} {row : Nat → Int64} (ha : (-10000000) ≤ a ∧ a ≤ 10000000) (h : m = (-1) ∨ (-1000000000 ≤ row m.toNatClampNeg ∧ row m.toNatClampNeg ≤ 1000000000)) : -1000000000 ≤ zVal m a row ∧ zVal m a row ≤ 1000000000 := by
  unfold zVal
  by_cases c : m = (-1)
  · rw [if_pos c, show (-1000000000 : Int64) = (-1000000000 : Int32).toInt64 by decide +kernel, show (1000000000 : Int64) = (1000000000 : Int32).toInt64 by decide +kernel, z64_le, z64_le]
    constructor <;> grind
  · rw [if_neg c]
    exact h.resolve_left c
theorem zLoV_b {p : Int32} {a b c d : Int64} (ha : -1000000000 ≤ a ∧ a ≤ 1000000000) (hb : -1000000000 ≤ b ∧ b ≤ 1000000000) (hc : -1000000000 ≤ c ∧ c ≤ 1000000000) (hd : -1000000000 ≤ d ∧ d ≤ 1000000000) : (-5000000000000000 ≤ zLoV p a b c d ∧ zLoV p a b c d ≤ 5000000000000000) ∧ (-5000000000000000 ≤ zHiV p a b c d ∧ zHiV p a b c d ≤ 5000000000000000) := by
  have p1 := zPr_b a c
  have p2 := zPr_b a d
  have p3 := zPr_b b c
  have p4 := zPr_b b d
  unfold zLoV zHiV zAp
  generalize zPr a c 1 = q1 at p1 ⊢
  generalize zPr a d 1 = q2 at p2 ⊢
  generalize zPr b c 1 = q3 at p3 ⊢
  generalize zPr b d 1 = q4 at p4 ⊢
  have mn : ∀ x y : Int64, zLs x y = x ∨ zLs x y = y := fun x y => by unfold zLs; grind
  have mx : ∀ x y : Int64, zMx x y = x ∨ zMx x y = y := fun x y => by unfold zMx; grind
  by_cases c2 : p = 2
  · rw [if_pos c2, if_pos c2]
    refine ⟨⟨?_, ?_⟩, ?_, ?_⟩ <;> grind
  · rw [if_neg c2, if_neg c2]
    by_cases c3 : p = 3
    · rw [if_pos c3, if_pos c3]
      have m1 := mn q1 q2
      have m2 := mn q3 q4
      have m3 := mn (zLs q1 q2) (zLs q3 q4)
      have n1 := mx q1 q2
      have n2 := mx q3 q4
      have n3 := mx (zMx q1 q2) (zMx q3 q4)
      generalize zLs q1 q2 = u1 at m1 m3 ⊢
      generalize zLs q3 q4 = u2 at m2 m3 ⊢
      generalize zLs u1 u2 = u3 at m3 ⊢
      generalize zMx q1 q2 = v1 at n1 n3 ⊢
      generalize zMx q3 q4 = v2 at n2 n3 ⊢
      generalize zMx v1 v2 = v3 at n3 ⊢
      refine ⟨⟨?_, ?_⟩, ?_, ?_⟩ <;> grind
    · rw [if_neg c3, if_neg c3, if_neg c3, if_neg c2, if_neg c3, if_neg c2]
      have m1 := mn a c
      have n1 := mx a c
      have m2 := mn b d
      have n2 := mx b d
      generalize zLs a c = u1 at m1 ⊢
      generalize zMx a c = u2 at n1 ⊢
      generalize zLs b d = u3 at m2 ⊢
      generalize zMx b d = u4 at n2 ⊢
      by_cases c1 : p = 1
      · rw [if_pos c1, if_pos c1]
        refine ⟨⟨?_, ?_⟩, ?_, ?_⟩ <;> grind
      · rw [if_neg c1, if_neg c1]
        by_cases c4 : p = 4
        · rw [if_pos c4, if_pos c4]
          refine ⟨⟨?_, ?_⟩, ?_, ?_⟩ <;> grind
        · rw [if_neg c4, if_neg c4]
          refine ⟨⟨?_, ?_⟩, ?_, ?_⟩ <;> grind
theorem zLw_r {i cF : Int32} {nN op fx al made amt lets mNN mO m1 m2 mX mW : Nat → Int32} {mA mB lo hi : Nat → Int64} (hk : zN01 i cF nN op fx al made amt lets mNN mO m1 m2 mX mW mA mB) (h0 : made (2 * i + 0).toNatClampNeg = (-1) ∨ ((-1000000000 ≤ lo (made (2 * i + 0).toNatClampNeg).toNatClampNeg ∧ lo (made (2 * i + 0).toNatClampNeg).toNatClampNeg ≤ 1000000000) ∧ (-1000000000 ≤ hi (made (2 * i + 0).toNatClampNeg).toNatClampNeg ∧ hi (made (2 * i + 0).toNatClampNeg).toNatClampNeg ≤ 1000000000))) (h1 : made (2 * i + 1).toNatClampNeg = (-1) ∨ ((-1000000000 ≤ lo (made (2 * i + 1).toNatClampNeg).toNatClampNeg ∧ lo (made (2 * i + 1).toNatClampNeg).toNatClampNeg ≤ 1000000000) ∧ (-1000000000 ≤ hi (made (2 * i + 1).toNatClampNeg).toNatClampNeg ∧ hi (made (2 * i + 1).toNatClampNeg).toNatClampNeg ≤ 1000000000))) : (-5000000000000000 ≤ zLw i op made amt lo hi ∧ zLw i op made amt lo hi ≤ 5000000000000000) ∧ (-5000000000000000 ≤ zHg i op made amt lo hi ∧ zHg i op made amt lo hi ≤ 5000000000000000) := by
  obtain ⟨q1, q2, q3, q4, q5, q6, q7, q8, q9, q10, q11, q12, q13, q14, q15, q16, q17⟩ := hk
  unfold zLw zHg
  by_cases c : op i.toNatClampNeg = 0
  · rw [if_pos c, if_pos c, show (-5000000000000000 : Int64) ≤ (amt (2 * i + 0).toNatClampNeg).toInt64 ↔ True from ⟨fun _ => trivial, fun _ => ?_⟩, show (-5000000000000000 : Int64) ≤ (amt (2 * i + 1).toNatClampNeg).toInt64 ↔ True from ⟨fun _ => trivial, fun _ => ?_⟩]
    · refine ⟨⟨trivial, ?_⟩, trivial, ?_⟩
      · exact Int64.le_iff_toInt_le.mpr (by rw [z64_i, show (5000000000000000 : Int64).toInt = 5000000000000000 by decide +kernel]; have := Int32.toInt_lt (amt (2 * i + 0).toNatClampNeg); omega)
      · exact Int64.le_iff_toInt_le.mpr (by rw [z64_i, show (5000000000000000 : Int64).toInt = 5000000000000000 by decide +kernel]; have := Int32.toInt_lt (amt (2 * i + 1).toNatClampNeg); omega)
    · exact Int64.le_iff_toInt_le.mpr (by rw [z64_i, show (-5000000000000000 : Int64).toInt = -5000000000000000 by decide +kernel]; have := Int32.le_toInt (amt (2 * i + 1).toNatClampNeg); omega)
    · exact Int64.le_iff_toInt_le.mpr (by rw [z64_i, show (-5000000000000000 : Int64).toInt = -5000000000000000 by decide +kernel]; have := Int32.le_toInt (amt (2 * i + 0).toNatClampNeg); omega)
  · rw [if_neg c, if_neg c]
    exact zLoV_b (zVal_r q14 (h0.imp id (fun q => q.1))) (zVal_r q14 (h0.imp id (fun q => q.2))) (zVal_r q15 (h1.imp id (fun q => q.1))) (zVal_r q15 (h1.imp id (fun q => q.2)))
theorem zGrPt {m x : Int32} {ig : Nat → Int32} (h : fn_X12_isGreatPart m ig = some x) : x = 0 ∧ ¬ zWd ig m ∨ x = 1 ∧ zWd ig m := by
  unfold fn_X12_isGreatPart at h
  by_cases c : m = (-1)
  · rw [if_pos c] at h
    exact Or.inl ⟨(Option.some.inj h).symm, fun q => q.1 c⟩
  · rw [if_neg c] at h
    obtain ⟨-, h⟩ := zg_s h
    by_cases d : ig m.toNatClampNeg = 0
    · rw [if_pos d] at h
      exact Or.inl ⟨(Option.some.inj h).symm, fun q => q.2 d⟩
    · rw [if_neg d] at h
      exact Or.inr ⟨(Option.some.inj h).symm, c, d⟩
set_option maxHeartbeats 4000000 in
theorem zeq_range {cF cc cN inp mWn : Int32} {nF nN stp mst prc al made amt op fx jn lets rwd mF mN mCst mNF mNN mS mM mC mW mO m1 m2 mX mG mIg : Nat → Int32} {rlo rhi mA mB mLe mGe : Nat → Int64} {mWb : Int64} {p1 p2 : Int32} {x : Int64} {y : Int64 × Int32 × (Nat → Int32) × (Nat → Int64) × (Nat → Int64)} (T : zTN cF cc cN inp nF nN stp mst prc al made amt op fx jn lets mF mN mNF mNN mS mM mC mW mCst mO m1 m2 mX mG mA mB) (R : zRN cN (-1) 0 op made amt rwd rlo rhi) (h1 : fn_X11_range p1 p2 cN rwd rlo rhi = some x) (h2 : fn_X12_range p1 p2 mWn mWb mN m1 mIg m2 mO mLe mA mB mGe = some y) : x = y.1 := by
  obtain ⟨hF, ⟨n1, n2, n3⟩, hC, hz, hp, hI, hf, hn, hg⟩ := T
  unfold fn_X11_range at h1
  unfold fn_X12_range at h2
  rw [zHasN, zb_some] at h1
  rw [zIsNum (by rw [n1]; exact n2), zb_some, n1] at h2
  by_cases c : 0 ≤ p1 ∧ p1 < cN
  · rw [if_neg (by rw [zif1]; exact fun q => q c)] at h1 h2
    obtain ⟨-, h1⟩ := zg_s h1
    refine zl_ip (P := fun y : Int64 × Int32 × (Nat → Int32) × (Nat → Int64) × (Nat → Int64) => x = y.1) (fun s => 0 ≤ s.1 ∧ s.1 ≤ p1 + 1 ∧ ∀ j : Int32, 0 ≤ j → j < s.1 → s.2.2.2 j.toNatClampNeg = rwd j.toNatClampNeg ∧ (rwd j.toNatClampNeg = 0 → s.2.1 j.toNatClampNeg = rlo j.toNatClampNeg ∧ s.2.2.1 j.toNatClampNeg = rhi j.toNatClampNeg)) ?_ _ _ _ ?_ h2
    rotate_left
    · exact ⟨(show (0 : Int32) ≤ 0 by decide), (show 0 ≤ p1 + 1 by grind), fun j j1 j2 => absurd j2 (by show ¬ j < 0; grind)⟩
    intro s back o ⟨H1, H2, H3⟩ hb ho
    obtain ⟨k, lo, hi, ig⟩ := s
    dsimp only at H1 H2 H3 ho
    by_cases e : p1 < k
    · rw [if_pos e] at ho
      obtain ⟨-, ho⟩ := zg_s ho
      obtain ⟨a1, a2⟩ := H3 p1 c.1 e
      by_cases w : rwd p1.toNatClampNeg = 0
      · obtain ⟨a3, a4⟩ := a2 w
        rw [if_pos w] at h1
        rw [if_pos (a1.trans w)] at ho
        by_cases v : p2 = 0
        · rw [if_pos v] at h1 ho
          rw [← Option.some.inj ho, ← Option.some.inj h1]; exact a3.symm
        · rw [if_neg v] at h1 ho
          rw [← Option.some.inj ho, ← Option.some.inj h1]; exact a4.symm
      · rw [if_neg w] at h1
        rw [if_neg (fun q => w (a1.symm.trans q))] at ho
        rw [← Option.some.inj ho, ← Option.some.inj h1]
    · rw [if_neg e] at ho
      have hk : 0 ≤ k ∧ k < cN := ⟨H1, by grind⟩
      obtain ⟨-, ho⟩ := zg_s ho
      obtain ⟨w0, hw0, ho⟩ := zb_s ho
      have hn1 := hn k hk.1 hk.2
      obtain ⟨q1, q2, q3, q4, q5, q6, q7, q8, q9, q10, q11, q12, q13, q14, q15, q16, q17⟩ := hn k hk.1 hk.2
      obtain ⟨r1, r2, r3⟩ := R k hk.1 hk.2
      rw [if_neg (show ¬ k = (-1) by grind), Int64.sub_zero] at r1
      rw [if_neg (show ¬ k = (-1) by grind), Int64.add_zero] at r2
      have gw : ∀ m : Int32, (-1) ≤ m → m < k → (zWd ig m ↔ zWd rwd m) := fun m m0 m1 => zWd_c (by
        by_cases c : m = (-1)
        · exact Or.inl c
        · exact Or.inr (H3 m (by grind) m1).1)
      have fin : ∀ (v : Int32) (lo' hi' : Nat → Int64), v = rwd k.toNatClampNeg → (∀ j : Int32, 0 ≤ j → j < k → lo' j.toNatClampNeg = lo j.toNatClampNeg ∧ hi' j.toNatClampNeg = hi j.toNatClampNeg) → (rwd k.toNatClampNeg = 0 → lo' k.toNatClampNeg = rlo k.toNatClampNeg ∧ hi' k.toNatClampNeg = rhi k.toNatClampNeg) → ∀ g : Nat → Int32, (∀ j : Int32, 0 ≤ j → g j.toNatClampNeg = if j = k then v else ig j.toNatClampNeg) → back (k + 1, lo', hi', g) = some o → x = o.1 := by
        intro v lo' hi' hv hl hl2 g hgg hbk
        refine hb _ _ ?_ hbk
        refine ⟨(show 0 ≤ k + 1 by grind), (show k + 1 ≤ p1 + 1 by grind), fun j j1 j2 => ?_⟩
        have j2 : j < k + 1 := j2
        show g j.toNatClampNeg = rwd j.toNatClampNeg ∧ (rwd j.toNatClampNeg = 0 → lo' j.toNatClampNeg = rlo j.toNatClampNeg ∧ hi' j.toNatClampNeg = rhi j.toNatClampNeg)
        rw [hgg j j1]
        by_cases w : j = k
        · rw [if_pos w, w]; exact ⟨hv, hl2⟩
        · have lt : j < k := by grind
          rw [if_neg w, (hl j j1 lt).1, (hl j j1 lt).2]; exact H3 j j1 lt
      obtain ⟨j16, e16, ho⟩ := zj_g ho
      try dsimp only at ho
      simp only [zj] at ho
      have main : (zWd rwd (made (2 * k + 0).toNatClampNeg) ∨ zWd rwd (made (2 * k + 1).toNatClampNeg)) ∧ j16 1 = some o ∨ ¬ (zWd rwd (made (2 * k + 0).toNatClampNeg) ∨ zWd rwd (made (2 * k + 1).toNatClampNeg)) ∧ j16 0 = some o := by
        rcases zGrPt hw0 with ⟨z1, z2⟩ | ⟨z1, z2⟩
        · rw [if_pos z1] at ho
          obtain ⟨w1, hw1, ho⟩ := zb_s ho
          rcases zGrPt hw1 with ⟨y1, y2⟩ | ⟨y1, y2⟩
          · rw [if_pos y1] at ho
            rw [← q5, gw _ q12.1 q12.2] at z2
            rw [← q6, gw _ q13.1 q13.2] at y2
            exact Or.inr ⟨fun q => q.elim z2 y2, ho⟩
          · rw [if_neg (by rw [y1]; decide)] at ho
            rw [← q6, gw _ q13.1 q13.2] at y2
            exact Or.inl ⟨Or.inr y2, ho⟩
        · rw [if_neg (by rw [z1]; decide)] at ho
          rw [← q5, gw _ q12.1 q12.2] at z2
          exact Or.inl ⟨Or.inl z2, ho⟩
      rcases main with ⟨z, ho⟩ | ⟨z, ho⟩
      · have ho := zj_s e16 ho
        try dsimp only at ho
        obtain ⟨-, ho⟩ := zg_s ho
        simp only [zn] at ho
        have ex : upd ig k.toNatClampNeg (vp_nar .boolean 1) k.toNatClampNeg = 1 := by rw [zup H1 H1, if_pos rfl]; rfl
        rw [ex, if_neg (by decide)] at ho
        refine fin 1 lo hi ?_ (fun _ _ _ => ⟨rfl, rfl⟩) (fun w => ?_) _ (fun j j1 => zup H1 j1) ho
        · rcases r3 with ⟨u1, _⟩ | ⟨_, u2⟩
          · exact u1.symm
          · exact absurd (Or.inr z) u2
        · rcases r3 with ⟨u1, _⟩ | ⟨_, u2⟩
          · rw [u1] at w; exact absurd w (by decide)
          · exact absurd (Or.inr z) u2
      · have ho := zj_s e16 ho
        try dsimp only at ho
        obtain ⟨-, ho⟩ := zg_s ho
        simp only [zn] at ho
        have ex : upd ig k.toNatClampNeg (vp_nar .boolean 0) k.toNatClampNeg = 0 := by rw [zup H1 H1, if_pos rfl]; rfl
        rw [ex, if_pos rfl] at ho
        obtain ⟨u, hu, ho⟩ := zb_s ho
        obtain ⟨v, hv, ho⟩ := zb_s ho
        have hu := zLaysR hn1 hu
        have hv := zMostM hv
        rw [if_neg (show ¬ (k = (-1) ∧ op k.toNatClampNeg = 0) from fun q => by have := q.1; grind), Int64.sub_zero, Int64.add_zero] at hu
        have part : ∀ m : Int32, (-1) ≤ m → m < k → ¬ zWd rwd m → m = (-1) ∨ (lo m.toNatClampNeg = rlo m.toNatClampNeg ∧ hi m.toNatClampNeg = rhi m.toNatClampNeg) ∧ (-1000000000 ≤ rlo m.toNatClampNeg ∧ rlo m.toNatClampNeg ≤ 1000000000) ∧ (-1000000000 ≤ rhi m.toNatClampNeg ∧ rhi m.toNatClampNeg ≤ 1000000000) := by
          intro m m0 m1 m2
          by_cases w : m = (-1)
          · exact Or.inl w
          · have m0' : 0 ≤ m := by grind
            have w0 : rwd m.toNatClampNeg = 0 := by
              by_cases w0 : rwd m.toNatClampNeg = 0
              · exact w0
              · exact absurd ⟨w, w0⟩ m2
            obtain ⟨s1, s2, s3⟩ := R m m0' (by grind)
            have b1 := zHd_b (zLw m op made amt rlo rhi - (if m = (-1) then 0 else 0))
            have b2 := zHd_b (zHg m op made amt rlo rhi + (if m = (-1) then 0 else 0))
            rw [← s1] at b1
            rw [← s2] at b2
            have s4 : ¬ 1000000000 < zMx (zAb (rlo m.toNatClampNeg)) (zAb (rhi m.toNatClampNeg)) := by
              rcases s3 with ⟨t1, _⟩ | ⟨_, t2⟩
              · rw [t1] at w0; exact absurd w0 (by decide)
              · exact fun q => t2 (Or.inl q)
            rw [zMx_gt] at s4
            exact Or.inr ⟨(H3 m m0' m1).2 w0, zAb_le (by decide) (fun q => s4 (Or.inl q)) (by grind), zAb_le (by decide) (fun q => s4 (Or.inr q)) (by grind)⟩
        have pa := part _ q12.1 q12.2 (fun q => z (Or.inl q))
        have pb := part _ q13.1 q13.2 (fun q => z (Or.inr q))
        obtain ⟨e1, e2⟩ := zLw_c (i := k) (op := op) (amt := amt) (made := made) (lo' := lo) (hi' := hi) (lo := rlo) (hi := rhi) (pa.imp id (fun q => q.1)) (pb.imp id (fun q => q.1))
        have bb := zLw_r hn1 (lo := rlo) (hi := rhi) (pa.imp id (fun q => q.2)) (pb.imp id (fun q => q.2))
        rw [e1, e2] at hu
        have eu1 : u.1 k.toNatClampNeg = zLw k op made amt rlo rhi := by rw [hu]; show vp_updL lo k.toNatClampNeg _ k.toNatClampNeg = _; rw [zupL H1 H1, if_pos rfl]
        have eu2 : u.2 k.toNatClampNeg = zHg k op made amt rlo rhi := by rw [hu]; show vp_updL hi k.toNatClampNeg _ k.toNatClampNeg = _; rw [zupL H1 H1, if_pos rfl]
        have elt : ∀ j : Int32, 0 ≤ j → j < k → u.1 j.toNatClampNeg = lo j.toNatClampNeg ∧ u.2 j.toNatClampNeg = hi j.toNatClampNeg := by
          intro j j1 j2
          rw [hu]
          exact ⟨by show vp_updL lo k.toNatClampNeg _ j.toNatClampNeg = _; rw [zupL H1 j1, if_neg (by grind)], by show vp_updL hi k.toNatClampNeg _ j.toNatClampNeg = _; rw [zupL H1 j1, if_neg (by grind)]⟩
        rw [eu1, eu2] at hv
        have gt : 1000000000 < v ↔ 1000000000 < zMx (zAb (rlo k.toNatClampNeg)) (zAb (rhi k.toNatClampNeg)) := by
          rw [hv, zMx_gt, zMx_gt, r1, r2, zHd_w (by have := bb.1.1; grind), zHd_w (by have := bb.2.1; grind)]
        by_cases w : v ≤ 1000000000
        · rw [if_pos ((lg_cmp_le _ _).mpr w)] at ho
          have nw : ¬ 1000000000 < zMx (zAb (rlo k.toNatClampNeg)) (zAb (rhi k.toNatClampNeg)) := fun q => by have := gt.mpr q; grind
          have r0 : rwd k.toNatClampNeg = 0 := by
            rcases r3 with ⟨_, u2⟩ | ⟨u1, _⟩
            · rcases u2 with u2 | u2
              · exact absurd u2 nw
              · exact absurd u2 z
            · exact u1
          have nv : ¬ 1000000000 < v := by grind
          rw [hv, zMx_gt] at nv
          have l1 := zAb_le (c := 1000000000) (by decide) (fun q => nv (Or.inl q)) (by have := bb.1.1; grind)
          have l2 := zAb_le (c := 1000000000) (by decide) (fun q => nv (Or.inr q)) (by have := bb.2.1; grind)
          refine fin 0 u.1 u.2 r0.symm elt (fun _ => ⟨?_, ?_⟩) _ (fun j j1 => ?_) ho
          · rw [eu1, r1, zHd_in ⟨by have := l1.1; grind, by have := l1.2; grind⟩]
          · rw [eu2, r2, zHd_in ⟨by have := l2.1; grind, by have := l2.2; grind⟩]
          · rw [zup H1 j1, zup H1 j1]
            by_cases t : j = k
            · rw [if_pos t, if_pos t]; rfl
            · rw [if_neg t, if_neg t, if_neg t]
        · rw [if_neg (fun q => w ((lg_cmp_le _ _).mp q))] at ho
          have yw : 1000000000 < zMx (zAb (rlo k.toNatClampNeg)) (zAb (rhi k.toNatClampNeg)) := gt.mp (by grind)
          have r1' : rwd k.toNatClampNeg = 1 := by
            rcases r3 with ⟨u1, _⟩ | ⟨_, u2⟩
            · exact u1
            · exact absurd (Or.inl yw) u2
          refine fin 1 u.1 u.2 r1'.symm elt (fun q => ?_) _ (fun j j1 => ?_) ho
          · rw [r1'] at q; exact absurd q (by decide)
          · rw [zup H1 j1, zup H1 j1]
            by_cases t : j = k
            · rw [if_pos t, if_pos t]; rfl
            · rw [if_neg t, if_neg t, if_neg t]
  · rw [if_pos (by rw [zif1]; exact c)] at h1 h2
    rw [← Option.some.inj h1, ← Option.some.inj h2]
