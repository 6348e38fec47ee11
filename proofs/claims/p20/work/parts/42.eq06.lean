/-! class and reference, a step each -/
theorem zMustR {n a e k s v o w fk fp bg wa : Int32} {f g own tab : Nat → Int32} (hn : n ≤ 1200) (ha : 0 ≤ a ∧ a ≤ n) (ht : zTp f g) (ho : ∀ w : Nat, w < 13 → own w = zOwT w) (hT : (∀ k : Nat, k < 71 → tab k = zTab k)) (T : zTok n f g a e k s v o) (hw : 0 ≤ w) :
    zw (fn_X5_readOwn w fk fp n e k s v o f own) (fun r => zw (fn_X12_must w n a bg 0 wa g tab) (fun q => (∃ y, r = (1, fk, fp, y) ∧ q = (e, s, 0, wa) ∧ zNext n f g e y) ∨ zStop r.1 r.2.1 r.2.2.1 q.2.2.1 q.2.2.2)) := by
  refine zw_mono (zROwn hn ha ht ho T) (fun r hr => ?_)
  refine zw_mono (zMustM hn ha T hT hw) (fun q hq => ?_)
  rcases hr with ⟨c, y, r1, r2⟩ | ⟨c, r1⟩
  · rcases hq with ⟨_, q1⟩ | ⟨d, _⟩
    · exact Or.inl ⟨y, r1, q1, r2⟩
    · exact absurd c d
  · rcases hq with ⟨d, _⟩ | ⟨_, q1, q2⟩
    · exact absurd d c
    · subst r1
      exact Or.inr ⟨rfl, by rw [q1]; decide, q1.symm, q2.symm⟩
theorem zSignR {n a e k s v o c fk fp wa : Int32} {f g own : Nat → Int32} (hn : n ≤ 1200) (ha : 0 ≤ a ∧ a ≤ n) (ht : zTp f g) (ho : ∀ w : Nat, w < 13 → own w = zOwT w) (T : zTok n f g a e k s v o) (hc : zKd c = 3 ∧ 0 ≤ c ∧ c ≤ 127) :
    zw (fn_X5_readSign c fk fp n e k s v o f own) (fun r => zw (fn_X12_mark c n a 0 wa g) (fun q => (∃ y, r = (1, fk, fp, y) ∧ q = (e, 0, wa) ∧ zNext n f g e y) ∨ zStop r.1 r.2.1 r.2.2.1 q.2.1 q.2.2)) := by
  refine zw_mono (zRSign hn ha ht ho T) (fun r hr => ?_)
  refine zw_mono (zMarkM hn ht ha T hc) (fun q hq => ?_)
  rcases hr with ⟨c, y, r1, r2⟩ | ⟨c, r1⟩
  · rcases hq with ⟨_, q1⟩ | ⟨d, _⟩
    · exact Or.inl ⟨y, r1, q1, r2⟩
    · exact absurd c d
  · rcases hq with ⟨d, _⟩ | ⟨_, q1, q2⟩
    · exact absurd d c
    · subst r1
      exact Or.inr ⟨rfl, by rw [q1]; decide, q1.symm, q2.symm⟩
theorem zNumR {n a e k s v o lo hi got fk fp bg wa : Int32} {f g own : Nat → Int32} {lo64 hi64 : Int64} (hlo : lo64 = lo.toInt64) (hhi : hi64 = hi.toInt64) (hn : n ≤ 1200) (ha : 0 ≤ a ∧ a ≤ n) (ht : zTp f g) (ho : ∀ w : Nat, w < 13 → own w = zOwT w) (T : zTok n f g a e k s v o) :
    zw (fn_X5_readValue 0 lo hi got fk fp n e k s v o f own) (fun r => zw (fn_X12_number lo64 hi64 n a bg 0 wa g) (fun q => (∃ y, r = (1, v, fk, fp, y) ∧ q = (v.toInt64, e, s, 0, wa) ∧ lo ≤ v ∧ v ≤ hi ∧ zNext n f g e y) ∨ zStop r.1 r.2.2.1 r.2.2.2.1 q.2.2.2.1 q.2.2.2.2)) := by
  subst hlo
  subst hhi
  refine zw_mono (zRVal0 hn ha ht ho T) (fun r hr => ?_)
  refine zw_mono (zNumM _ _ hn ha T) (fun q hq => ?_)
  rw [z64_le, z64_le] at hq
  rcases hr with ⟨k2, c, y, r1, r2⟩ | ⟨k2, c, r1⟩ | ⟨k2, r1⟩
  · rcases hq with ⟨_, _, _, _, q1⟩ | ⟨_, d, _⟩ | ⟨d, _⟩
    · exact Or.inl ⟨y, r1, q1, c.1, c.2, r2⟩
    · exact absurd c d
    · exact absurd k2 d
  · rcases hq with ⟨_, d, _⟩ | ⟨_, _, q1, q2⟩ | ⟨d, _⟩
    · exact absurd d c
    · subst r1
      exact Or.inr ⟨rfl, by rw [q1]; decide, q1.symm, q2.symm⟩
    · exact absurd k2 d
  · rcases hq with ⟨d, _⟩ | ⟨d, _⟩ | ⟨_, q1, q2⟩
    · exact absurd d k2
    · exact absurd d k2
    · subst r1
      exact Or.inr ⟨rfl, by rw [q1]; decide, q1.symm, q2.symm⟩
/-- digits, and how far they may go, in the reference's own order -/
theorem zDigR {n a e k s v o lo hi got fk fp bg wa : Int32} {f g own : Nat → Int32} (hn : n ≤ 1200) (ha : 0 ≤ a ∧ a ≤ n) (ht : zTp f g) (ho : ∀ w : Nat, w < 13 → own w = zOwT w) (T : zTok n f g a e k s v o) :
    zw (fn_X5_readValue 0 lo hi got fk fp n e k s v o f own) (fun r => zw (fn_X12_digits n a bg 0 wa g) (fun q => k = 2 ∧ q = (v.toInt64, e, s, 0, wa) ∧ ((∃ y, r = (1, v, fk, fp, y) ∧ lo ≤ v ∧ v ≤ hi ∧ zNext n f g e y) ∨ ¬ (lo ≤ v ∧ v ≤ hi) ∧ r.1 = 0 ∧ r.2.2.1 = 2 ∧ r.2.2.2.1 = s) ∨ ¬ k = 2 ∧ zStop r.1 r.2.2.1 r.2.2.2.1 q.2.2.2.1 q.2.2.2.2)) := by
  refine zw_mono (zRVal0 hn ha ht ho T) (fun r hr => ?_)
  refine zw_mono (zDigM hn ha T) (fun q hq => ?_)
  rcases hr with ⟨k2, c, y, r1, r2⟩ | ⟨k2, c, r1⟩ | ⟨k2, r1⟩
  · rcases hq with ⟨_, _, _, q1⟩ | ⟨d, _⟩
    · exact Or.inl ⟨k2, q1, Or.inl ⟨y, r1, c.1, c.2, r2⟩⟩
    · exact absurd k2 d
  · rcases hq with ⟨_, _, _, q1⟩ | ⟨d, _⟩
    · subst r1
      exact Or.inl ⟨k2, q1, Or.inr ⟨c, rfl, rfl, rfl⟩⟩
    · exact absurd k2 d
  · rcases hq with ⟨d, _⟩ | ⟨_, q0, q1, q2⟩
    · exact absurd d k2
    · subst r1
      exact Or.inr ⟨k2, rfl, by rw [q1]; decide, q1.symm, q2.symm⟩
set_option maxHeartbeats 2000000 in
theorem zFormat {n a e k s v o got fk fp bg wa cF cN : Int32} {f g own tab nF nN stp mst prc : Nat → Int32} {mF mNF mN mNN mS mM mC : Nat → Int32} (hn : n ≤ 1200) (ha : 0 ≤ a ∧ a ≤ n) (ht : zTp f g) (ho : ∀ w : Nat, w < 13 → own w = zOwT w) (hT : (∀ k : Nat, k < 71 → tab k = zTab k)) (T : zTok n f g a e k s v o) (hF : mF 1 = cF ∧ 0 ≤ cF ∧ cF < 4) (hN : mN 1 = cN ∧ 0 ≤ cN ∧ cN ≤ 14) (hnf : zNR 4 cF nF mNF) (hnn : zNR 14 cN nN mNN) :
    zw (fn_X5_readFormat got fk fp n e k s v o cF nF cN nN f own stp mst prc) (fun r => zw (fn_X12_readsFormat n a bg 0 wa 1 g tab mF mNF mN mNN mS mM mC) (fun q =>
      (∃ g' e' k' s' v' o' z b' c m x1 x2 x3, r = (1, g', fk, fp, e', k', s', v', o', cF + 1, upd nF cF.toNatClampNeg c, upd stp cF.toNatClampNeg x1, upd mst cF.toNatClampNeg x2, upd prc cF.toNatClampNeg x3) ∧ q = (z, b', 0, wa, upd mF 1 (cF + 1), upd mNF (4 + cF).toNatClampNeg m, upd mS (4 + cF).toNatClampNeg x1, upd mM (4 + cF).toNatClampNeg x2, upd mC (4 + cF).toNatClampNeg x3) ∧ zNm c m ∧ (1 ≤ x1 ∧ x1 ≤ 1000000) ∧ (1 ≤ x2 ∧ x2 ≤ 1000000000) ∧ (0 ≤ x3 ∧ x3 ≤ 999) ∧ zNext n f g z (e', k', s', v', o'))
      ∨ zStop r.1 r.2.2.1 r.2.2.2.1 q.2.2.1 q.2.2.2.1 ∧ q.2.2.2.2 = (mF, mNF, mS, mM, mC))) := by
  unfold fn_X5_readFormat fn_X12_readsFormat
  obtain ⟨r1, hr1, q1, hq1, h1⟩ := zNewName (got := got) (fk := fk) (fp := fp) (bg := bg) (wa := wa) hn ha ht ho hT T ⟨hF.1, hF.2.1, by grind⟩ hN hnf hnn
  rw [hr1, hq1]
  simp only [zb_some]
  rcases h1 with ⟨y1, rfl, hnm, q1e, ha1, T1⟩ | hst
  · obtain ⟨m, q1⟩ := q1
    dsimp only at hnm q1e ⊢
    subst q1e
    dsimp only
    rw [if_neg (by decide)]
    obtain ⟨r2, hr2, q2, hq2, h2⟩ := zMustR (w := 1) (fk := fk) (fp := fp) (bg := s) (wa := wa) hn ha1 ht ho hT T1 (by decide)
    rw [hr2, hq2]
    simp only [zb_some]
    rcases h2 with ⟨y2, rfl, rfl, ha2, T2⟩ | hst
    · dsimp only
      rw [if_neg (by decide)]
      obtain ⟨r3, hr3, q3, hq3, h3⟩ := zNumR (lo := 1) (hi := 1000000) (lo64 := 1) (hi64 := 1000000) (got := v) (fk := fk) (fp := fp) (bg := y1.2.2.1) (wa := wa) (by decide +kernel) (by decide +kernel) hn ha2 ht ho T2
      rw [hr3, hq3]
      simp only [zb_some]
      rcases h3 with ⟨y3, rfl, rfl, l3, u3, ha3, T3⟩ | hst
      · dsimp only
        rw [if_neg (by decide)]
        obtain ⟨r4, hr4, q4, hq4, h4⟩ := zMustR (w := 2) (fk := fk) (fp := fp) (bg := y2.2.2.1) (wa := wa) hn ha3 ht ho hT T3 (by decide)
        rw [hr4, hq4]
        simp only [zb_some]
        rcases h4 with ⟨y4, rfl, rfl, ha4, T4⟩ | hst
        · dsimp only
          rw [if_neg (by decide)]
          obtain ⟨r5, hr5, q5, hq5, h5⟩ := zDigR (lo := 1) (hi := 1000000000) (got := y2.2.2.2.1) (fk := fk) (fp := fp) (bg := y3.2.2.1) (wa := wa) hn ha4 ht ho T4
          rw [hr5, hq5]
          simp only [zb_some]
          rcases h5 with ⟨_, rfl, ⟨y5, rfl, l5, u5, ha5, T5⟩ | ⟨h5, d1, d2, d3⟩⟩ | ⟨_, hst⟩
          · dsimp only
            have hin : (1 : Int64) ≤ y4.2.2.2.1.toInt64 ∧ y4.2.2.2.1.toInt64 ≤ 1000000000 := by
              rw [show (1 : Int64) = (1 : Int32).toInt64 by decide +kernel, show (1000000000 : Int64) = (1000000000 : Int32).toInt64 by decide +kernel, z64_le, z64_le]
              exact ⟨l5, u5⟩
            simp only [zGw_0, zb_some, zIsIn, if_pos hin, zj]
            rw [if_neg (by decide), if_neg (by decide), if_neg (by decide)]
            obtain ⟨r6, hr6, q6, hq6, h6⟩ := zMustR (w := 3) (fk := fk) (fp := fp) (bg := y4.2.2.1) (wa := wa) hn ha5 ht ho hT T5 (by decide)
            rw [hr6, hq6]
            simp only [zb_some]
            rcases h6 with ⟨y6, rfl, rfl, ha6, T6⟩ | hst
            · dsimp only
              rw [if_neg (by decide)]
              obtain ⟨r7, hr7, q7, hq7, h7⟩ := zNumR (lo := 0) (hi := 999) (lo64 := 0) (hi64 := 999) (got := y4.2.2.2.1) (fk := fk) (fp := fp) (bg := y5.2.2.1) (wa := wa) (by decide +kernel) (by decide +kernel) hn ha6 ht ho T6
              rw [hr7, hq7]
              simp only [zb_some]
              rcases h7 with ⟨y7, rfl, rfl, l7, u7, ha7, T7⟩ | hst
              · dsimp only
                rw [if_neg (by decide)]
                have hadd : fn_X9_addFormat v y2.2.2.2.1 y4.2.2.2.1 y6.2.2.2.1 cF nF stp mst prc = some (cF + 1, upd nF cF.toNatClampNeg v, upd stp cF.toNatClampNeg y2.2.2.2.1, upd mst cF.toNatClampNeg y4.2.2.2.1, upd prc cF.toNatClampNeg y6.2.2.2.1) := by
                  unfold fn_X9_addFormat
                  rw [if_neg (by grind), zg_in 4 (by decide +kernel) (by grind)]
                simp only [hadd, zb_some, zGw_0, fn_X12_f]
                rw [if_neg (by decide), show (1 : Int32).toNatClampNeg = 1 by decide +kernel, hF.1, show (4 * 1 : Int32) = 4 by decide +kernel, zg_in 2 (by decide +kernel) (by decide), zg_in 8 (by decide +kernel) (by grind)]
                simp only [z64_32]
                exact zw_some (zw_some (Or.inl ⟨_, _, _, _, _, _, _, _, _, _, _, _, _, rfl, rfl, hnm, ⟨l3, u3⟩, ⟨l5, u5⟩, ⟨l7, u7⟩, ha7, T7⟩))
              · obtain ⟨s1, s2, s3, s4⟩ := hst
                obtain ⟨x1, x2, x3, x4, x5⟩ := q7
                dsimp only at s2 s3 s4 ⊢
                rw [if_pos s1]
                simp only [zGw_n s2, zb_some, if_true]
                exact zw_some (zw_some (Or.inr ⟨⟨rfl, s2, s3, s4⟩, rfl⟩))
            · obtain ⟨s1, s2, s3, s4⟩ := hst
              obtain ⟨x2, x3, x4, x5⟩ := q6
              dsimp only at s2 s3 s4 ⊢
              rw [if_pos s1]
              simp only [zNum_n s2, zGw_n s2, zb_some, if_true]
              exact zw_some (zw_some (Or.inr ⟨⟨rfl, s2, s3, s4⟩, rfl⟩))
          · obtain ⟨x1, x2, x3, x4, x5⟩ := r5
            dsimp only at d1 d2 d3 ⊢
            have hin : ¬ ((1 : Int64) ≤ y4.2.2.2.1.toInt64 ∧ y4.2.2.2.1.toInt64 ≤ 1000000000) := by
              rw [show (1 : Int64) = (1 : Int32).toInt64 by decide +kernel, show (1000000000 : Int64) = (1000000000 : Int32).toInt64 by decide +kernel, z64_le, z64_le]
              exact h5
            rw [if_pos d1]
            simp only [zGw_0, zb_some, zIsIn, if_neg hin, zj, if_true, zFl_0, zMust_n (show ¬ (2 : Int32) = 0 by decide), zNum_n (show ¬ (2 : Int32) = 0 by decide), zGw_n (show ¬ (2 : Int32) = 0 by decide)]
            rw [if_neg (by decide)]
            exact zw_some (zw_some (Or.inr ⟨⟨rfl, show ¬ (2 : Int32) = 0 by decide, d2, d3⟩, rfl⟩))
          · obtain ⟨s1, s2, s3, s4⟩ := hst
            obtain ⟨x1, x2, x3, x4, x5⟩ := q5
            dsimp only at s2 s3 s4 ⊢
            rw [if_pos s1]
            simp only [zGw_n s2, zb_some, if_true, zj, zMust_n s2, zNum_n s2]
            exact zw_some (zw_some (Or.inr ⟨⟨rfl, s2, s3, s4⟩, rfl⟩))
        · obtain ⟨s1, s2, s3, s4⟩ := hst
          obtain ⟨x2, x3, x4, x5⟩ := q4
          dsimp only at s2 s3 s4 ⊢
          rw [if_pos s1]
          simp only [zDig_n s2, zGw_n s2, zb_some, if_true, zj, zMust_n s2, zNum_n s2]
          exact zw_some (zw_some (Or.inr ⟨⟨rfl, s2, s3, s4⟩, rfl⟩))
      · obtain ⟨s1, s2, s3, s4⟩ := hst
        obtain ⟨x1, x2, x3, x4, x5⟩ := q3
        dsimp only at s2 s3 s4 ⊢
        rw [if_pos s1]
        simp only [zDig_n s2, zGw_n s2, zb_some, if_true, zj, zMust_n s2, zNum_n s2]
        exact zw_some (zw_some (Or.inr ⟨⟨rfl, s2, s3, s4⟩, rfl⟩))
    · obtain ⟨s1, s2, s3, s4⟩ := hst
      obtain ⟨x2, x3, x4, x5⟩ := q2
      dsimp only at s2 s3 s4 ⊢
      rw [if_pos s1]
      simp only [zDig_n s2, zGw_n s2, zb_some, if_true, zj, zMust_n s2, zNum_n s2]
      exact zw_some (zw_some (Or.inr ⟨⟨rfl, s2, s3, s4⟩, rfl⟩))
  · obtain ⟨s1, s2, s3, s4⟩ := hst
    obtain ⟨x1, x2, x3, x4, x5⟩ := q1
    dsimp only at s2 s3 s4 ⊢
    rw [if_pos s1]
    simp only [zDig_n s2, zGw_n s2, zb_some, if_true, zj, zMust_n s2, zNum_n s2]
    exact zw_some (zw_some (Or.inr ⟨⟨rfl, s2, s3, s4⟩, rfl⟩))
/-! an input, a let -/
theorem zNewNum {m w cN : Int32} {mN mNN mO m1 m2 mX mW mG : Nat → Int32} (hN : mN 1 = cN ∧ 0 ≤ cN ∧ cN < 14) : fn_X12_newNumber m w 1 mN mNN mO m1 m2 mX mW mG = some (upd mNN (14 + cN).toNatClampNeg m, upd mO (14 + cN).toNatClampNeg w, upd m1 (14 + cN).toNatClampNeg (-1), upd m2 (14 + cN).toNatClampNeg (-1), upd mX (14 + cN).toNatClampNeg (-1), upd mW (14 + cN).toNatClampNeg (-1), upd mG (14 + cN).toNatClampNeg cN) := by
  unfold fn_X12_newNumber
  simp only [fn_X12_n, zb_some]
  rw [show (1 : Int32).toNatClampNeg = 1 by decide +kernel, hN.1, show (14 * 1 : Int32) = 14 by decide +kernel, zg_in 2 (by decide +kernel) (by decide)]
  have h28 : ∀ e : Option ((Nat → Int32) × (Nat → Int32) × (Nat → Int32) × (Nat → Int32) × (Nat → Int32) × (Nat → Int32) × (Nat → Int32)), zg (14 + cN) 28 e = e := fun e => zg_in 28 (by decide +kernel) (by grind) e
  simp only [h28]
/-- how many lets a NUMBER is made of, as the class keeps it -/
noncomputable def zLets (cN : Int32) (made lets : Nat → Int32) (side : Int32) : Int32 := if made (2 * cN + side).toNatClampNeg < 0 ∨ cN ≤ made (2 * cN + side).toNatClampNeg then 0 else lets (made (2 * cN + side).toNatClampNeg).toNatClampNeg
theorem zLetsOf {cN side : Int32} {made lets : Nat → Int32} (hc : 0 ≤ cN ∧ cN < 14) (hs : side = 0 ∨ side = 1) : fn_X4_letsOf side cN made lets = some (zLets cN made lets side) := by
  unfold fn_X4_letsOf zLets
  rw [zg_in 28 (by decide +kernel) (by grind)]
  generalize made (2 * cN + side).toNatClampNeg = x
  by_cases c : x < 0
  · simp [c]
  · by_cases d : cN ≤ x
    · simp [c, d]
    · have hz : ∀ e : Option Int32, zg x 14 e = e := fun e => zg_in 14 (by decide +kernel) (by grind) e
      simp [c, d, hz]
noncomputable def zDeep (w cN : Int32) (made lets : Nat → Int32) : Int32 := if w = 0 then 0 else 1 + (if zLets cN made lets 0 < zLets cN made lets 1 then zLets cN made lets 1 else zLets cN made lets 0)
theorem zAddNum {c w cN inp : Int32} {nN op fx al jn made lets : Nat → Int32} (hc : 0 ≤ cN ∧ cN < 14) : fn_X4_add c w cN inp nN op fx al jn made lets = some (cN + 1, inp + (if w = 0 then 1 else 0), upd nN cN.toNatClampNeg c, upd op cN.toNatClampNeg w, upd fx cN.toNatClampNeg (-1), upd al cN.toNatClampNeg (-1), upd jn cN.toNatClampNeg cN, upd lets cN.toNatClampNeg (zDeep w cN made lets)) := by
  unfold fn_X4_add zDeep
  rw [if_pos hc.2, zg_in 14 (by decide +kernel) hc]
  simp only [zLetsOf hc (Or.inl rfl), zLetsOf hc (Or.inr rfl), zb_some, zj]
  by_cases q : w = 0
  · simp only [if_pos q]
    rw [zg_in 14 (by decide +kernel) hc]
  · simp only [if_neg q]
    rw [zg_in 14 (by decide +kernel) hc]
set_option maxHeartbeats 2000000 in
theorem zBox {n a e k s v o got fk fp bg wa cF cN inp : Int32} {f g own tab nF nN made amt op fx al jn lets : Nat → Int32} {mF mNF mN mNN mO m1 m2 mX mW mG : Nat → Int32} {mA mB : Nat → Int64} (hn : n ≤ 1200) (ha : 0 ≤ a ∧ a ≤ n) (ht : zTp f g) (ho : ∀ w : Nat, w < 13 → own w = zOwT w) (hT : (∀ k : Nat, k < 71 → tab k = zTab k)) (T : zTok n f g a e k s v o) (hF : mF 1 = cF ∧ 0 ≤ cF ∧ cF ≤ 4) (hN : mN 1 = cN ∧ 0 ≤ cN ∧ cN < 14) (hnf : zNR 4 cF nF mNF) (hnn : zNR 14 cN nN mNN) :
    zw (fn_X5_readBox got fk fp n e k s v o cF nF cN inp nN f own made amt op fx al jn lets) (fun r => zw (fn_X12_readsInput n a bg 0 wa 1 g tab mF mNF mN mNN mO m1 m2 mX mW mG mA mB) (fun q =>
      (∃ g' e' k' s' v' o' z b' c m x y, r = (1, g', fk, fp, e', k', s', v', o', cN + 1, inp + 1, upd nN cN.toNatClampNeg c, upd (upd made (2 * cN + 0).toNatClampNeg (-1)) (2 * cN + 1).toNatClampNeg (-1), upd (upd amt (2 * cN + 0).toNatClampNeg x) (2 * cN + 1).toNatClampNeg y, upd op cN.toNatClampNeg 0, upd fx cN.toNatClampNeg (-1), upd al cN.toNatClampNeg (-1), upd jn cN.toNatClampNeg cN, upd lets cN.toNatClampNeg 0) ∧ q = (z, b', 0, wa, upd mN 1 (cN + 1), upd mNN (14 + cN).toNatClampNeg m, upd mO (14 + cN).toNatClampNeg 0, upd m1 (14 + cN).toNatClampNeg (-1), upd m2 (14 + cN).toNatClampNeg (-1), upd mX (14 + cN).toNatClampNeg (-1), upd mW (14 + cN).toNatClampNeg (-1), upd mG (14 + cN).toNatClampNeg cN, vp_updL mA (14 + cN).toNatClampNeg x.toInt64, vp_updL mB (14 + cN).toNatClampNeg y.toInt64) ∧ zNm c m ∧ (-10000000) ≤ x ∧ x ≤ y ∧ y ≤ 10000000 ∧ zNext n f g z (e', k', s', v', o'))
      ∨ zStop r.1 r.2.2.1 r.2.2.2.1 q.2.2.1 q.2.2.2.1 ∧ q.2.2.2.2 = (mN, mNN, mO, m1, m2, mX, mW, mG, mA, mB))) := by
  have h28 : ∀ {ρ : Type} (e : Option ρ), zg (14 + cN) 28 e = e := fun e => zg_in 28 (by decide +kernel) (by grind) e
  unfold fn_X5_readBox fn_X12_readsInput
  obtain ⟨r1, hr1, q1, hq1, h1⟩ := zNewName (got := got) (fk := fk) (fp := fp) (bg := bg) (wa := wa) hn ha ht ho hT T hF ⟨hN.1, hN.2.1, by grind⟩ hnf hnn
  rw [hr1, hq1]
  simp only [zb_some]
  rcases h1 with ⟨y1, rfl, hnm, q1e, ha1, T1⟩ | hst
  · obtain ⟨m, q1⟩ := q1
    dsimp only at hnm q1e ⊢
    subst q1e
    dsimp only
    rw [if_neg (by decide)]
    obtain ⟨r2, hr2, q2, hq2, h2⟩ := zRVal1 (lq := -10000000) (lo := -10000000) (hi := 10000000) (got := v) (fk := fk) (fp := fp) (bg := s) (wa := wa) hn ha1 ht ho T1 (by decide)
    rw [show (-10000000 : Int32).toInt64 = -10000000 by decide +kernel, show (10000000 : Int32).toInt64 = 10000000 by decide +kernel] at hq2
    rw [hr2, hq2]
    simp only [zb_some]
    rcases h2 with ⟨x, y2, z2, rfl, rfl, l2, u2, ha2, T2⟩ | hst | ⟨_, _, _, x, _, _, w1, w2⟩
    · dsimp only
      rw [if_neg (by decide)]
      obtain ⟨r3, hr3, q3, hq3, h3⟩ := zRVal1 (lq := -10000000) (lo := x) (hi := 10000000) (got := x) (fk := fk) (fp := fp) (bg := y1.2.2.1) (wa := wa) hn ha2 ht ho T2 l2
      rw [show (-10000000 : Int32).toInt64 = -10000000 by decide +kernel, show (10000000 : Int32).toInt64 = 10000000 by decide +kernel] at hq3
      rw [hr3, hq3]
      simp only [zb_some]
      rcases h3 with ⟨y, y3, z3, rfl, rfl, l3, u3, ha3, T3⟩ | hst | ⟨d1, d2, d3, y, z3, rfl, w1, w2⟩
      · dsimp only
        rw [if_neg (by decide)]
        have hcmp : 0 ≤ lg_cmp y.toInt64 x.toInt64 := (lg_cmp_ge _ _).mpr ((z64_le _ _).mpr l3)
        simp only [zPrep hN.2 (Or.inl rfl), zPrep hN.2 (Or.inr rfl), zAddNum hN.2, zb_some, zGw_0, zj, if_pos hcmp, zNewNum hN, fn_X12_n, if_true]
        rw [if_neg (by decide), if_neg (by decide), show (1 : Int32).toNatClampNeg = 1 by decide +kernel, hN.1, show (14 * 1 : Int32) = 14 by decide +kernel, zg_in 2 (by decide +kernel) (by decide), h28, h28]
        exact zw_some (zw_some (Or.inl ⟨_, _, _, _, _, _, _, _, _, _, _, _, rfl, rfl, hnm, l2, l3, u3, ha3, T3⟩))
      · obtain ⟨s1, s2, s3, s4⟩ := hst
        obtain ⟨x1, x2, x3, x4, x5⟩ := q3
        dsimp only at s2 s3 s4 ⊢
        rw [if_pos s1]
        simp only [zGw_n s2, zb_some, if_true, zj]
        exact zw_some (zw_some (Or.inr ⟨⟨rfl, s2, s3, s4⟩, rfl⟩))
      · obtain ⟨x1, x2, x3, x4, x5⟩ := r3
        dsimp only at d1 d2 d3 ⊢
        rw [if_pos d1]
        have hcmp : ¬ 0 ≤ lg_cmp y.toInt64 x.toInt64 := fun q => by
          have := (z64_le _ _).mp ((lg_cmp_ge _ _).mp q)
          grind
        simp only [zGw_0, zb_some, zj, if_neg hcmp, zFl_0, zGw_n (show ¬ (2 : Int32) = 0 by decide), if_true]
        rw [if_neg (by decide)]
        exact zw_some (zw_some (Or.inr ⟨⟨rfl, show ¬ (2 : Int32) = 0 by decide, d2, d3⟩, rfl⟩))
    · obtain ⟨s1, s2, s3, s4⟩ := hst
      obtain ⟨x1, x2, x3, x4, x5⟩ := q2
      dsimp only at s2 s3 s4 ⊢
      rw [if_pos s1]
      simp only [zSig_n s2, zGw_n s2, zb_some, if_true, zj]
      exact zw_some (zw_some (Or.inr ⟨⟨rfl, s2, s3, s4⟩, rfl⟩))
    · exact absurd w2 (by grind)
  · obtain ⟨s1, s2, s3, s4⟩ := hst
    obtain ⟨x1, x2, x3, x4, x5⟩ := q1
    dsimp only at s2 s3 s4 ⊢
    rw [if_pos s1]
    simp only [zSig_n s2, zGw_n s2, zb_some, if_true, zj]
    exact zw_some (zw_some (Or.inr ⟨⟨rfl, s2, s3, s4⟩, rfl⟩))
set_option maxHeartbeats 2000000 in
theorem zLetS {n a e k s v o got fk fp bg wa cF cN inp : Int32} {f g own tab nF nN made amt op fx al jn lets : Nat → Int32} {mF mNF mN mNN mO m1 m2 mX mW mG : Nat → Int32} {mA mB : Nat → Int64} (hn : n ≤ 1200) (ha : 0 ≤ a ∧ a ≤ n) (ht : zTp f g) (ho : ∀ w : Nat, w < 13 → own w = zOwT w) (hT : (∀ k : Nat, k < 71 → tab k = zTab k)) (T : zTok n f g a e k s v o) (hF : mF 1 = cF ∧ 0 ≤ cF ∧ cF ≤ 4) (hN : mN 1 = cN ∧ 0 ≤ cN ∧ cN < 14) (hnf : zNR 4 cF nF mNF) (hnn : zNR 14 cN nN mNN) :
    zw (fn_X5_readLet got fk fp n e k s v o cF nF cN inp nN f own made amt op fx al jn lets) (fun r => zw (fn_X12_readsLet n a bg 0 wa 1 g tab mF mNF mN mNN mO m1 m2 mX mW mG mA mB) (fun q =>
      (∃ g' e' k' s' v' o' z b' c m w p1 x1 p2 x2, r = (1, g', fk, fp, e', k', s', v', o', cN + 1, inp, upd nN cN.toNatClampNeg c, upd (upd made (2 * cN + 0).toNatClampNeg p1) (2 * cN + 1).toNatClampNeg p2, upd (upd amt (2 * cN + 0).toNatClampNeg x1) (2 * cN + 1).toNatClampNeg x2, upd op cN.toNatClampNeg w, upd fx cN.toNatClampNeg (-1), upd al cN.toNatClampNeg (-1), upd jn cN.toNatClampNeg cN, upd lets cN.toNatClampNeg (zDeep w cN (upd (upd made (2 * cN + 0).toNatClampNeg p1) (2 * cN + 1).toNatClampNeg p2) lets)) ∧ q.2 = (z, b', 0, wa, upd mN 1 (cN + 1), upd mNN (14 + cN).toNatClampNeg m, upd mO (14 + cN).toNatClampNeg w, upd (upd m1 (14 + cN).toNatClampNeg (-1)) (14 + cN).toNatClampNeg p1, upd (upd m2 (14 + cN).toNatClampNeg (-1)) (14 + cN).toNatClampNeg p2, upd mX (14 + cN).toNatClampNeg (-1), upd mW (14 + cN).toNatClampNeg (-1), upd mG (14 + cN).toNatClampNeg cN, vp_updL mA (14 + cN).toNatClampNeg x1.toInt64, vp_updL mB (14 + cN).toNatClampNeg x2.toInt64) ∧ zNm c m ∧ (1 ≤ w ∧ w ≤ 5) ∧ ((-1) ≤ p1 ∧ p1 < cN) ∧ ((-1) ≤ p2 ∧ p2 < cN) ∧ ((-1000000) ≤ x1 ∧ x1 ≤ 1000000) ∧ ((-1000000) ≤ x2 ∧ x2 ≤ 1000000) ∧ zNext n f g z (e', k', s', v', o'))
      ∨ zStop r.1 r.2.2.1 r.2.2.2.1 q.2.2.2.1 q.2.2.2.2.1 ∧ q.2.2.2.2.2 = (mN, mNN, mO, m1, m2, mX, mW, mG, mA, mB))) := by
  have h28 : ∀ {ρ : Type} (e : Option ρ), zg (14 + cN) 28 e = e := fun e => zg_in 28 (by decide +kernel) (by grind) e
  unfold fn_X5_readLet fn_X12_readsLet
  obtain ⟨r1, hr1, q1, hq1, h1⟩ := zNewName (got := got) (fk := fk) (fp := fp) (bg := bg) (wa := wa) hn ha ht ho hT T hF ⟨hN.1, hN.2.1, by grind⟩ hnf hnn
  rw [hr1, hq1]
  simp only [zb_some]
  rcases h1 with ⟨y1, rfl, hnm, q1e, ha1, T1⟩ | hst
  · obtain ⟨m, q1⟩ := q1
    dsimp only at hnm q1e ⊢
    subst q1e
    dsimp only
    rw [if_neg (by decide)]
    obtain ⟨r2, hr2, q2, hq2, h2⟩ := zSignR (c := 61) (fk := fk) (fp := fp) (wa := wa) hn ha1 ht ho T1 (by decide +kernel)
    rw [hr2, hq2]
    simp only [zb_some]
    rcases h2 with ⟨y2, rfl, rfl, ha2, T2⟩ | hst
    · dsimp only
      rw [if_neg (by decide)]
      obtain ⟨r3, hr3, q3, hq3, h3⟩ := zWhat (side := 0) (f6 := made) (f7 := amt) (got := v) (fk := fk) (fp := fp) (bg := s) (wa := wa) hn ha2 ht ho hT T2 hN hnn (Or.inl rfl)
      rw [hr3, hq3]
      simp only [zb_some]
      rcases h3 with ⟨p1, x1, g3, e3, k3, s3, v3, o3, z3, b3, rfl, rfl, l3, u3, lx3, ux3, ha3, T3⟩ | hst
      · dsimp only at T3 ⊢
        rw [if_neg (by decide)]
        obtain ⟨r4, hr4, q4, hq4, h4⟩ := zOp (got := g3) (fk := fk) (fp := fp) (bg := b3) (wa := wa) hn ha3 ht ho hT T3
        rw [hr4, hq4]
        simp only [zb_some]
        rcases h4 with ⟨w, y4, b4, rfl, rfl, lw, uw, ha4, T4⟩ | hst
        · dsimp only
          rw [if_neg (by decide)]
          obtain ⟨r5, hr5, q5, hq5, h5⟩ := zWhat (side := 1) (f6 := upd made (2 * cN + 0).toNatClampNeg p1) (f7 := upd amt (2 * cN + 0).toNatClampNeg x1) (got := w) (fk := fk) (fp := fp) (bg := b4) (wa := wa) hn ha4 ht ho hT T4 hN hnn (Or.inr rfl)
          rw [hr5, hq5]
          simp only [zb_some]
          rcases h5 with ⟨p2, x2, g5, e5, k5, s5, v5, o5, z5, b5, rfl, rfl, l5, u5, lx5, ux5, ha5, T5⟩ | hst
          · dsimp only at T5 ⊢
            rw [if_neg (by decide)]
            simp only [zAddNum hN.2, zb_some, zGw_0, zNewNum hN, fn_X12_n]
            rw [if_neg (show ¬ w = 0 by grind), if_neg (by decide), show (1 : Int32).toNatClampNeg = 1 by decide +kernel, hN.1, show (14 * 1 : Int32) = 14 by decide +kernel, zg_in 2 (by decide +kernel) (by decide), h28, show inp + 0 = inp by grind]
            exact zw_some (zw_some (Or.inl ⟨_, _, _, _, _, _, _, _, _, _, _, _, _, _, _, rfl, rfl, hnm, ⟨lw, uw⟩, ⟨l3, u3⟩, ⟨l5, u5⟩, ⟨lx3, ux3⟩, ⟨lx5, ux5⟩, ha5, T5⟩))
          · obtain ⟨s1, s2, s3, s4⟩ := hst
            obtain ⟨x1', x2', x3, x4, x5, x6⟩ := q5
            dsimp only at s2 s3 s4 ⊢
            rw [if_pos s1]
            simp only [zGw_n s2, zb_some, if_true]
            exact zw_some (zw_some (Or.inr ⟨⟨rfl, s2, s3, s4⟩, rfl⟩))
        · obtain ⟨s1, s2, s3, s4⟩ := hst
          obtain ⟨x1', x2', x3, x4, x5⟩ := q4
          dsimp only at s2 s3 s4 ⊢
          rw [if_pos s1]
          simp only [zWhat_n s2, zGw_n s2, zb_some, if_true]
          exact zw_some (zw_some (Or.inr ⟨⟨rfl, s2, s3, s4⟩, rfl⟩))
      · obtain ⟨s1, s2, s3, s4⟩ := hst
        obtain ⟨x1', x2', x3, x4, x5, x6⟩ := q3
        dsimp only at s2 s3 s4 ⊢
        rw [if_pos s1]
        simp only [zOp_n s2, zWhat_n s2, zGw_n s2, zb_some, if_true]
        exact zw_some (zw_some (Or.inr ⟨⟨rfl, s2, s3, s4⟩, rfl⟩))
    · obtain ⟨s1, s2, s3, s4⟩ := hst
      obtain ⟨x3, x4, x5⟩ := q2
      dsimp only at s2 s3 s4 ⊢
      rw [if_pos s1]
      simp only [zOp_n s2, zWhat_n s2, zGw_n s2, zb_some, if_true]
      exact zw_some (zw_some (Or.inr ⟨⟨rfl, s2, s3, s4⟩, rfl⟩))
  · obtain ⟨s1, s2, s3, s4⟩ := hst
    obtain ⟨x1, x2, x3, x4, x5⟩ := q1
    dsimp only at s2 s3 s4 ⊢
    rw [if_pos s1]
    simp only [zMark_n s2, zOp_n s2, zWhat_n s2, zGw_n s2, zb_some, if_true]
    exact zw_some (zw_some (Or.inr ⟨⟨rfl, s2, s3, s4⟩, rfl⟩))
