/-! GROUPS: the class counts them, the reference names each by its least NUMBER -/
noncomputable def zRk (G : Nat → Int32) : Nat → Int32 := zct (fun k => decide (G k = Int32.ofNat k))
theorem zRk_t {G : Nat → Int32} {p : Int32} (h0 : 0 ≤ p) (h1 : p ≤ 14) (h : G p.toNatClampNeg = p) : zRk G (p + 1).toNatClampNeg = zRk G p.toNatClampNeg + 1 :=
  zct_t h0 (by grind) (by show decide (G p.toNatClampNeg = Int32.ofNat p.toNatClampNeg) = true; rw [zofn' p h0]; exact decide_eq_true h)
theorem zRk_f {G : Nat → Int32} {p : Int32} (h0 : 0 ≤ p) (h1 : p ≤ 14) (h : ¬ G p.toNatClampNeg = p) : zRk G (p + 1).toNatClampNeg = zRk G p.toNatClampNeg :=
  zct_f h0 (by grind) (by show ¬ decide (G p.toNatClampNeg = Int32.ofNat p.toNatClampNeg) = true; rw [zofn' p h0]; exact fun q => h (of_decide_eq_true q))
theorem zRk_b {G : Nat → Int32} {p : Int32} (h0 : 0 ≤ p) (h1 : p ≤ 14) : 0 ≤ zRk G p.toNatClampNeg ∧ zRk G p.toNatClampNeg ≤ p := zct_b32 h0 h1
theorem zRk_lt {G : Nat → Int32} {a b : Int32} (h0 : 0 ≤ a) (h1 : a < b) (h2 : b ≤ 14) (hl : G a.toNatClampNeg = a) : zRk G a.toNatClampNeg < zRk G b.toNatClampNeg := by
  have e := zRk_t h0 (by grind) hl
  have m : zRk G (a + 1).toNatClampNeg ≤ zRk G b.toNatClampNeg := zct_m32 (by grind) (by grind) h2
  have r := zRk_b (G := G) h0 (show a ≤ 14 by grind)
  rw [e] at m
  generalize zRk G a.toNatClampNeg = u at m r ⊢
  generalize zRk G b.toNatClampNeg = v at m ⊢
  grind
theorem zRk_ne {G : Nat → Int32} {a b : Int32} (ha : 0 ≤ a ∧ a ≤ 14) (hb : 0 ≤ b ∧ b ≤ 14) (la : G a.toNatClampNeg = a) (lb : G b.toNatClampNeg = b) (h : ¬ a = b) : ¬ zRk G a.toNatClampNeg = zRk G b.toNatClampNeg := by
  intro q
  by_cases c : a < b
  · have := zRk_lt ha.1 c hb.2 la
    rw [q] at this
    grind
  · have := zRk_lt (G := G) hb.1 (show b < a by grind) ha.2 lb
    rw [q] at this
    grind
/-- how a GROUP (by its least NUMBER j) is fixed by the first m NUMBERS -/
noncomputable def zFxS (mG fx : Nat → Int32) (m j v : Int32) : Prop :=
  v = (-1) ∧ (∀ o : Int32, 0 ≤ o → o < m → mG o.toNatClampNeg = j → fx o.toNatClampNeg = (-1))
  ∨ v = (-2) ∧ (∃ o p : Int32, 0 ≤ o ∧ o < m ∧ 0 ≤ p ∧ p < m ∧ mG o.toNatClampNeg = j ∧ mG p.toNatClampNeg = j ∧ ¬ fx o.toNatClampNeg = (-1) ∧ ¬ fx p.toNatClampNeg = (-1) ∧ ¬ fx o.toNatClampNeg = fx p.toNatClampNeg)
  ∨ 0 ≤ v ∧ (∃ o : Int32, 0 ≤ o ∧ o < m ∧ mG o.toNatClampNeg = j ∧ fx o.toNatClampNeg = v) ∧ (∀ o : Int32, 0 ≤ o → o < m → mG o.toNatClampNeg = j → fx o.toNatClampNeg = (-1) ∨ fx o.toNatClampNeg = v)
theorem zFxS_o {mG fx : Nat → Int32} {i j v : Int32} (hi : 0 ≤ i ∧ i < 14) (hj : mG i.toNatClampNeg = j → fx i.toNatClampNeg = (-1) ∨ fx i.toNatClampNeg = v ∧ 0 ≤ v) (h : zFxS mG fx i j v) : zFxS mG fx (i + 1) j v := by
  have hs : ∀ o : Int32, o < i + 1 → o = i ∨ o < i := fun o ho => by grind
  have hl : ∀ o : Int32, o < i → o < i + 1 := fun o ho => by grind
  rcases h with ⟨a1, a2⟩ | ⟨a1, o, p, b1, b2, b3, b4, b5⟩ | ⟨a1, ⟨o, b1, b2, b3⟩, a2⟩
  · refine Or.inl ⟨a1, fun o o1 o2 o3 => ?_⟩
    rcases hs o o2 with q | q
    · rw [q] at o3 ⊢
      rcases hj o3 with w | w
      · exact w
      · exact absurd w.2 (by rw [a1]; decide)
    · exact a2 o o1 q o3
  · exact Or.inr (Or.inl ⟨a1, o, p, b1, hl o b2, b3, hl p b4, b5⟩)
  · refine Or.inr (Or.inr ⟨a1, ⟨o, b1, hl o b2, b3⟩, fun u u1 u2 u3 => ?_⟩)
    rcases hs u u2 with q | q
    · rw [q] at u3 ⊢
      rcases hj u3 with w | w
      · exact Or.inl w
      · exact Or.inr w.1
    · exact a2 u u1 q u3
theorem zFxS_1 {mG fx : Nat → Int32} {i j : Int32} (hi : 0 ≤ i ∧ i < 14) (hj : mG i.toNatClampNeg = j) (hf : 0 ≤ fx i.toNatClampNeg) (h : zFxS mG fx i j (-1)) : zFxS mG fx (i + 1) j (fx i.toNatClampNeg) := by
  have hs : ∀ o : Int32, o < i + 1 → o = i ∨ o < i := fun o ho => by grind
  rcases h with ⟨_, a2⟩ | ⟨a1, _⟩ | ⟨a1, _⟩
  · refine Or.inr (Or.inr ⟨hf, ⟨i, hi.1, by grind, hj, rfl⟩, fun u u1 u2 u3 => ?_⟩)
    rcases hs u u2 with q | q
    · rw [q]; exact Or.inr rfl
    · exact Or.inl (a2 u u1 q u3)
  · exact absurd a1 (by decide)
  · exact absurd a1 (by decide)
theorem zFxS_2 {mG fx : Nat → Int32} {i j v : Int32} (hi : 0 ≤ i ∧ i < 14) (hj : mG i.toNatClampNeg = j) (hf : 0 ≤ fx i.toNatClampNeg) (h1 : ¬ v = (-1)) (h2 : ¬ v = fx i.toNatClampNeg) (h : zFxS mG fx i j v) : zFxS mG fx (i + 1) j (-2) := by
  have hl : ∀ o : Int32, o < i → o < i + 1 := fun o ho => by grind
  have hf1 : ¬ fx i.toNatClampNeg = (-1) := fun q => by rw [q] at hf; exact absurd hf (by decide)
  rcases h with ⟨a1, _⟩ | ⟨a1, o, p, b1, b2, b3, b4, b5⟩ | ⟨a1, ⟨o, b1, b2, b3, b4⟩, a2⟩
  · exact absurd a1 h1
  · exact Or.inr (Or.inl ⟨rfl, o, p, b1, hl o b2, b3, hl p b4, b5⟩)
  · exact Or.inr (Or.inl ⟨rfl, o, i, b1, hl o b2, hi.1, by grind, b3, hj, by rw [b4]; exact h1, hf1, by rw [b4]; exact h2⟩)
noncomputable def zGi (m gc gcl : Int32) (gof gfx gld fx mG : Nat → Int32) : Prop :=
  gc = zRk mG m.toNatClampNeg ∧ (∀ j : Int32, 0 ≤ j → j < m → gof j.toNatClampNeg = zRk mG (mG j.toNatClampNeg).toNatClampNeg) ∧ (∀ j : Int32, 0 ≤ j → j < m → mG j.toNatClampNeg = j → gld (zRk mG j.toNatClampNeg).toNatClampNeg = j ∧ zFxS mG fx m j (gfx (zRk mG j.toNatClampNeg).toNatClampNeg)) ∧ (gcl = 0 ∨ gcl = 1) ∧ (gcl = 0 → ∀ j : Int32, 0 ≤ j → j < m → mG j.toNatClampNeg = j → ¬ gfx (zRk mG j.toNatClampNeg).toNatClampNeg = (-2)) ∧ (gcl = 1 → ∃ j : Int32, 0 ≤ j ∧ j < m ∧ mG j.toNatClampNeg = j ∧ gfx (zRk mG j.toNatClampNeg).toNatClampNeg = (-2))
noncomputable def zGp (cN gc gfr gcl : Int32) (gof gfx gld fx mG : Nat → Int32) : Prop := zGi cN gc gcl gof gfx gld fx mG ∧ gfr = zct (fun k => decide (gfx k = (-1))) gc.toNatClampNeg
theorem zGi_0 {gof gfx gld fx mG : Nat → Int32} : zGi 0 0 0 gof gfx gld fx mG := by
  have no : ∀ i : Int32, 0 ≤ i → ¬ i < 0 := fun i h q => by grind
  exact ⟨by rw [zn01.1]; rfl, fun j j1 j2 => absurd j2 (no j j1), fun j j1 j2 => absurd j2 (no j j1), Or.inl rfl, fun _ j j1 j2 => absurd j2 (no j j1), fun q => absurd q (by decide)⟩
theorem zEarl {i x : Int32} {jn gof : Nat → Int32} (h : fn_X2_earlierGroup i jn gof = some x) : (x = (-1) ∧ ∀ j : Int32, 0 ≤ j → j < i → ¬ jn j.toNatClampNeg = jn i.toNatClampNeg) ∨ (∃ j : Int32, 0 ≤ j ∧ j < i ∧ jn j.toNatClampNeg = jn i.toNatClampNeg ∧ x = gof j.toNatClampNeg) := by
  unfold fn_X2_earlierGroup at h
  refine zl_ip (P := fun x => (x = (-1) ∧ ∀ j : Int32, 0 ≤ j → j < i → ¬ jn j.toNatClampNeg = jn i.toNatClampNeg) ∨ (∃ j : Int32, 0 ≤ j ∧ j < i ∧ jn j.toNatClampNeg = jn i.toNatClampNeg ∧ x = gof j.toNatClampNeg)) (fun s => 0 ≤ s ∧ ∀ j : Int32, 0 ≤ j → j < s → ¬ jn j.toNatClampNeg = jn i.toNatClampNeg) ?_ _ _ _ ?_ h
  rotate_left
  · exact ⟨by decide, fun j j1 j2 => by grind⟩
  intro s back o ⟨H1, H2⟩ hb ho
  by_cases c : i ≤ s
  · rw [if_pos c] at ho
    rw [← Option.some.inj ho]
    exact Or.inl ⟨rfl, fun j j1 j2 => H2 j j1 (by grind)⟩
  · rw [if_neg c] at ho
    obtain ⟨hs, ho⟩ := zg_s ho
    have hs := vp_in_iff.mp hs
    obtain ⟨-, ho⟩ := zg_s ho
    by_cases d : jn s.toNatClampNeg = jn i.toNatClampNeg
    · rw [if_pos d] at ho
      rw [← Option.some.inj ho]
      exact Or.inr ⟨s, H1, by grind, d, rfl⟩
    · rw [if_neg d] at ho
      have h13 : s < 14 := Int32.lt_iff_toInt_lt.mpr (by rw [show (14 : Int32).toInt = 14 by decide +kernel]; exact hs.2)
      refine hb _ _ ?_ ho
      refine ⟨by grind, fun j j1 j2 => ?_⟩
      by_cases q : j = s
      · rw [q]; exact d
      · exact H2 j j1 (by grind)
theorem zFix2 {g v cl : Int32} {gfx : Nat → Int32} {x : Int32 × (Nat → Int32)} (hc : cl = 0 ∨ cl = 1) (h : fn_X2_fix g v cl gfx = some x) : ((v = (-1) ∨ gfx g.toNatClampNeg = v) ∧ x = (cl, gfx)) ∨ (¬ v = (-1) ∧ gfx g.toNatClampNeg = (-1) ∧ x = (cl, upd gfx g.toNatClampNeg v)) ∨ (¬ v = (-1) ∧ ¬ gfx g.toNatClampNeg = v ∧ ¬ gfx g.toNatClampNeg = (-1) ∧ x = (1, upd gfx g.toNatClampNeg (-2))) := by
  unfold fn_X2_fix at h
  simp only [zj] at h
  by_cases c : v = (-1)
  · rw [if_pos c] at h
    exact Or.inl ⟨Or.inl c, (Option.some.inj h).symm⟩
  · rw [if_neg c] at h
    obtain ⟨-, h⟩ := zg_s h
    by_cases d : gfx g.toNatClampNeg = v
    · rw [if_pos d] at h
      exact Or.inl ⟨Or.inr d, (Option.some.inj h).symm⟩
    · rw [if_neg d] at h
      by_cases e : gfx g.toNatClampNeg = (-1)
      · simp only [if_pos e] at h
        rcases hc with z | z
        · rw [if_pos z] at h
          obtain ⟨-, h⟩ := zt_s h
          obtain ⟨-, h⟩ := zg_s h
          rw [z]
          exact Or.inr (Or.inl ⟨c, e, (Option.some.inj h).symm⟩)
        · rw [if_neg (by rw [z]; decide)] at h
          obtain ⟨-, h⟩ := zt_s h
          obtain ⟨-, h⟩ := zg_s h
          rw [z]
          exact Or.inr (Or.inl ⟨c, e, (Option.some.inj h).symm⟩)
      · simp only [if_neg e] at h
        rcases hc with z | z
        · rw [if_pos z] at h
          obtain ⟨-, h⟩ := zt_s h
          obtain ⟨-, h⟩ := zg_s h
          exact Or.inr (Or.inr ⟨c, d, e, (Option.some.inj h).symm⟩)
        · rw [if_neg (by rw [z]; decide)] at h
          obtain ⟨-, h⟩ := zt_s h
          obtain ⟨-, h⟩ := zg_s h
          exact Or.inr (Or.inr ⟨c, d, e, (Option.some.inj h).symm⟩)
theorem zGstep {cN i c' cl : Int32} {of' gfx' ld' fx jn mG : Nat → Int32} {z : Int32 × (Nat → Int32)} (hN : cN ≤ 14) (hi : 0 ≤ i ∧ i < cN) (hg : zG0 cN jn mG) (hx : (-1) ≤ fx i.toNatClampNeg) (A : c' = zRk mG (i + 1).toNatClampNeg) (B : ∀ j : Int32, 0 ≤ j → j < i + 1 → of' j.toNatClampNeg = zRk mG (mG j.toNatClampNeg).toNatClampNeg) (C : ∀ j : Int32, 0 ≤ j → j < i + 1 → mG j.toNatClampNeg = j → ld' (zRk mG j.toNatClampNeg).toNatClampNeg = j ∧ zFxS mG fx i j (gfx' (zRk mG j.toNatClampNeg).toNatClampNeg)) (D1 : cl = 0 ∨ cl = 1) (D2 : cl = 0 → ∀ j : Int32, 0 ≤ j → j < i + 1 → mG j.toNatClampNeg = j → ¬ gfx' (zRk mG j.toNatClampNeg).toNatClampNeg = (-2)) (D3 : cl = 1 → ∃ j : Int32, 0 ≤ j ∧ j < i + 1 ∧ mG j.toNatClampNeg = j ∧ gfx' (zRk mG j.toNatClampNeg).toNatClampNeg = (-2)) (hf : fn_X2_fix (of' i.toNatClampNeg) (fx i.toNatClampNeg) cl gfx' = some z) : zGi (i + 1) c' z.1 of' z.2 ld' fx mG := by
  have i14 : 0 ≤ i ∧ i < 14 := ⟨hi.1, by grind⟩
  obtain ⟨l1, l2, l3⟩ := hg.1 i hi.1 hi.2
  rw [B i hi.1 (by grind)] at hf
  have g0 := (zRk_b (G := mG) (p := mG i.toNatClampNeg) l1 (by grind)).1
  have nn : ∀ j : Int32, 0 ≤ j → j < i + 1 → 0 ≤ zRk mG j.toNatClampNeg := fun j j1 j2 => (zRk_b j1 (by grind)).1
  have inj : ∀ j : Int32, 0 ≤ j → j < i + 1 → mG j.toNatClampNeg = j → ¬ j = mG i.toNatClampNeg → ¬ zRk mG j.toNatClampNeg = zRk mG (mG i.toNatClampNeg).toNatClampNeg := fun j j1 j2 j3 j4 => zRk_ne ⟨j1, by grind⟩ ⟨l1, by grind⟩ j3 l3 j4
  rcases zFix2 D1 hf with ⟨w, rfl⟩ | ⟨w1, w2, rfl⟩ | ⟨w1, w2, w3, rfl⟩
  · refine ⟨A, B, fun j j1 j2 j3 => ⟨(C j j1 j2 j3).1, zFxS_o i14 (fun q => ?_) (C j j1 j2 j3).2⟩, D1, D2, D3⟩
    by_cases e : fx i.toNatClampNeg = (-1)
    · exact Or.inl e
    · rcases w with w | w
      · exact absurd w e
      · rw [q] at w
        exact Or.inr ⟨w.symm, by show 0 ≤ gfx' (zRk mG j.toNatClampNeg).toNatClampNeg; rw [w]; grind⟩
  · have hf0 : 0 ≤ fx i.toNatClampNeg := by grind
    refine ⟨A, B, fun j j1 j2 j3 => ⟨(C j j1 j2 j3).1, ?_⟩, D1, fun q j j1 j2 j3 => ?_, fun q => ?_⟩
    · show zFxS mG fx (i + 1) j (upd gfx' (zRk mG (mG i.toNatClampNeg).toNatClampNeg).toNatClampNeg (fx i.toNatClampNeg) (zRk mG j.toNatClampNeg).toNatClampNeg)
      rw [zup g0 (nn j j1 j2)]
      by_cases e : j = mG i.toNatClampNeg
      · rw [if_pos (by rw [e])]
        have k := (C j j1 j2 j3).2
        rw [show gfx' (zRk mG j.toNatClampNeg).toNatClampNeg = (-1) by rw [e]; exact w2] at k
        exact zFxS_1 i14 e.symm hf0 k
      · rw [if_neg (inj j j1 j2 j3 e)]
        exact zFxS_o i14 (fun q => absurd q.symm e) (C j j1 j2 j3).2
    · show ¬ upd gfx' (zRk mG (mG i.toNatClampNeg).toNatClampNeg).toNatClampNeg (fx i.toNatClampNeg) (zRk mG j.toNatClampNeg).toNatClampNeg = (-2)
      rw [zup g0 (nn j j1 j2)]
      by_cases e : zRk mG j.toNatClampNeg = zRk mG (mG i.toNatClampNeg).toNatClampNeg
      · rw [if_pos e]
        intro w
        rw [w] at hf0
        exact absurd hf0 (by decide)
      · rw [if_neg e]; exact D2 q j j1 j2 j3
    · obtain ⟨j, j1, j2, j3, j4⟩ := D3 q
      refine ⟨j, j1, j2, j3, ?_⟩
      show upd gfx' (zRk mG (mG i.toNatClampNeg).toNatClampNeg).toNatClampNeg (fx i.toNatClampNeg) (zRk mG j.toNatClampNeg).toNatClampNeg = (-2)
      rw [zup g0 (nn j j1 j2), if_neg ?_]
      · exact j4
      · intro e
        rw [e, w2] at j4
        exact absurd j4 (by decide)
  · have hf0 : 0 ≤ fx i.toNatClampNeg := by grind
    refine ⟨A, B, fun j j1 j2 j3 => ⟨(C j j1 j2 j3).1, ?_⟩, Or.inr rfl, fun q => absurd q (show ¬ (1 : Int32) = 0 by decide), fun _ => ⟨mG i.toNatClampNeg, l1, by grind, l3, ?_⟩⟩
    · show zFxS mG fx (i + 1) j (upd gfx' (zRk mG (mG i.toNatClampNeg).toNatClampNeg).toNatClampNeg (-2) (zRk mG j.toNatClampNeg).toNatClampNeg)
      rw [zup g0 (nn j j1 j2)]
      by_cases e : j = mG i.toNatClampNeg
      · rw [if_pos (by rw [e])]
        have k := (C j j1 j2 j3).2
        rw [← e] at w2 w3
        exact zFxS_2 i14 e.symm hf0 w3 w2 k
      · rw [if_neg (inj j j1 j2 j3 e)]
        exact zFxS_o i14 (fun q => absurd q.symm e) (C j j1 j2 j3).2
    · show upd gfx' (zRk mG (mG i.toNatClampNeg).toNatClampNeg).toNatClampNeg (-2) (zRk mG (mG i.toNatClampNeg).toNatClampNeg).toNatClampNeg = (-2)
      rw [zup g0 g0, if_pos rfl]
set_option maxHeartbeats 4000000 in
theorem zGather {cN : Int32} {jn fx mG a b c : Nat → Int32} {x : Int32 × Int32 × Int32 × (Nat → Int32) × (Nat → Int32) × (Nat → Int32)} (hN : 0 ≤ cN ∧ cN ≤ 14) (hg : zG0 cN jn mG) (hx : ∀ i : Int32, 0 ≤ i → i < cN → (-1) ≤ fx i.toNatClampNeg) (h : fn_X2_gather cN jn a b c fx = some x) : zGp cN x.1 x.2.1 x.2.2.1 x.2.2.2.1 x.2.2.2.2.2 x.2.2.2.2.1 fx mG := by
  unfold fn_X2_gather at h
  refine zl_ip (P := fun x : Int32 × Int32 × Int32 × (Nat → Int32) × (Nat → Int32) × (Nat → Int32) => zGp cN x.1 x.2.1 x.2.2.1 x.2.2.2.1 x.2.2.2.2.2 x.2.2.2.2.1 fx mG) (fun s => 0 ≤ s.1 ∧ s.1 ≤ cN ∧ zGi s.1 s.2.1 s.2.2.1 s.2.2.2.1 s.2.2.2.2.1 s.2.2.2.2.2 fx mG) ?_ _ _ _ ?_ h
  rotate_left
  · exact ⟨(show (0 : Int32) ≤ 0 by decide), hN.1, zGi_0⟩
  intro s back o ⟨H1, H2, HG⟩ hb ho
  obtain ⟨i, cnt, cl, of, gfx, ld⟩ := s
  dsimp only at H1 H2 HG ho hb
  by_cases c1 : cN ≤ i
  · rw [if_pos c1] at ho
    have e : i = cN := by grind
    subst e
    have hc := zRk_b (G := mG) (p := i) H1 hN.2
    rw [← HG.1] at hc
    refine zl_ip (P := fun x : Int32 × Int32 × Int32 × (Nat → Int32) × (Nat → Int32) × (Nat → Int32) => zGp i x.1 x.2.1 x.2.2.1 x.2.2.2.1 x.2.2.2.2.2 x.2.2.2.2.1 fx mG) (fun t => 0 ≤ t.1 ∧ t.1 ≤ cnt ∧ t.2 = zct (fun k => decide (gfx k = (-1))) t.1.toNatClampNeg) ?_ _ _ _ ?_ ho
    rotate_left
    · exact ⟨(show (0 : Int32) ≤ 0 by decide), hc.1, by show (0 : Int32) = zct _ (0 : Int32).toNatClampNeg; rw [zn01.1]; rfl⟩
    intro t back' o' ⟨K1, K2, K3⟩ hb' ho'
    obtain ⟨g, n⟩ := t
    dsimp only at K1 K2 K3 ho' hb'
    by_cases c2 : cnt ≤ g
    · rw [if_pos c2] at ho'
      have e' : g = cnt := by grind
      rw [← Option.some.inj ho']
      exact ⟨HG, by show n = _; rw [K3, e']⟩
    · rw [if_neg c2] at ho'
      obtain ⟨-, ho'⟩ := zg_s ho'
      by_cases d : gfx g.toNatClampNeg = (-1)
      · rw [if_pos d] at ho'
        refine hb' _ _ ?_ ho'
        refine ⟨?_, ?_, ?_⟩
        · show 0 ≤ g + 1
          grind
        · show g + 1 ≤ cnt
          grind
        · show n + 1 = zct _ (g + 1).toNatClampNeg
          rw [zct_t K1 (by grind) (decide_eq_true d), K3]
      · rw [if_neg d] at ho'
        refine hb' _ _ ?_ ho'
        refine ⟨?_, ?_, ?_⟩
        · show 0 ≤ g + 1
          grind
        · show g + 1 ≤ cnt
          grind
        · show n + 0 = zct _ (g + 1).toNatClampNeg
          rw [zct_f K1 (by grind) (fun q => d (of_decide_eq_true q)), K3, Int32.add_zero]
  · rw [if_neg c1] at ho
    obtain ⟨e7, he7, ho⟩ := zb_s ho
    obtain ⟨-, ho⟩ := zg_s ho
    simp only [zj, zn] at ho
    have e8 : upd of i.toNatClampNeg e7 i.toNatClampNeg = e7 := if_pos rfl
    have hi : 0 ≤ i ∧ i < cN := ⟨H1, by grind⟩
    obtain ⟨l1, l2, l3⟩ := hg.1 i hi.1 hi.2
    obtain ⟨G1, G2, G3, G4, G5, G6⟩ := HG
    have hs : ∀ j : Int32, j < i + 1 → j = i ∨ j < i := fun o ho => by grind
    rcases zEarl he7 with ⟨w1, w2⟩ | ⟨j0, j1, j2, j3, j4⟩
    · have hl : mG i.toNatClampNeg = i := by
        by_cases q : mG i.toNatClampNeg = i
        · exact q
        · have hlt : mG i.toNatClampNeg < i := by grind
          exact absurd ((hg.2 (mG i.toNatClampNeg) i l1 (by grind) hi.1 hi.2).mpr l3) (w2 _ l1 hlt)
      rw [if_pos (e8.trans w1)] at ho
      obtain ⟨-, ho⟩ := zg_s ho
      obtain ⟨-, ho⟩ := zg_s ho
      obtain ⟨z, hz, ho⟩ := zb_s ho
      have hr := zRk_b (G := mG) (p := i) H1 (by grind)
      have nn : ∀ j : Int32, 0 ≤ j → j < i + 1 → 0 ≤ zRk mG j.toNatClampNeg := fun j j1 j2 => (zRk_b j1 (by grind)).1
      have ne : ∀ j : Int32, 0 ≤ j → j < i → mG j.toNatClampNeg = j → ¬ zRk mG j.toNatClampNeg = zRk mG i.toNatClampNeg := fun j j1 j2 j3 => zRk_ne ⟨j1, by grind⟩ ⟨H1, by grind⟩ j3 hl (by grind)
      subst G1
      have st := zGstep (cN := cN) (i := i) (c' := zRk mG i.toNatClampNeg + 1) (of' := upd (upd of i.toNatClampNeg e7) i.toNatClampNeg (zRk mG i.toNatClampNeg)) (gfx' := upd gfx (zRk mG i.toNatClampNeg).toNatClampNeg (-1)) (ld' := upd ld (zRk mG i.toNatClampNeg).toNatClampNeg i) hN.2 hi hg (hx i hi.1 hi.2) (zRk_t H1 (by grind) hl).symm (fun j j1 j2 => ?_) (fun j j1 j2 j3 => ?_) G4 (fun q j j1 j2 j3 => ?_) (fun q => ?_) hz
      · refine hb _ _ ?_ ho
        refine ⟨?_, ?_, st⟩
        · show 0 ≤ i + 1
          grind
        · show i + 1 ≤ cN
          grind
      · rw [zup H1 j1, zup H1 j1]
        by_cases q : j = i
        · rw [if_pos q, q, hl]
        · rw [if_neg q, if_neg q]; exact G2 j j1 (by grind)
      · rw [zup hr.1 (nn j j1 j2), zup hr.1 (nn j j1 j2)]
        by_cases q : j = i
        · rw [if_pos (by rw [q]), if_pos (by rw [q])]
          exact ⟨q.symm, Or.inl ⟨rfl, fun o o1 o2 o3 => absurd (hg.1 o o1 (by grind)).2.1 (by rw [o3, q]; grind)⟩⟩
        · have lt : j < i := by grind
          rw [if_neg (ne j j1 lt j3), if_neg (ne j j1 lt j3)]
          exact G3 j j1 lt j3
      · rw [zup hr.1 (nn j j1 j2)]
        by_cases w : j = i
        · rw [if_pos (by rw [w])]; decide
        · have lt : j < i := by grind
          rw [if_neg (ne j j1 lt j3)]; exact G5 q j j1 lt j3
      · obtain ⟨j, j1, j2, j3, j4⟩ := G6 q
        refine ⟨j, j1, by grind, j3, ?_⟩
        rw [zup hr.1 (nn j j1 (by grind)), if_neg (ne j j1 j2 j3)]
        exact j4
    · have hm : mG j0.toNatClampNeg = mG i.toNatClampNeg := (hg.2 j0 i j1 (by grind) hi.1 hi.2).mp j3
      have hj := hg.1 j0 j1 (by grind)
      have hl : ¬ mG i.toNatClampNeg = i := by grind
      have e9 : e7 = zRk mG (mG i.toNatClampNeg).toNatClampNeg := by rw [j4, G2 j0 j1 j2, hm]
      have r7 := (zRk_b (G := mG) (p := mG i.toNatClampNeg) l1 (by grind)).1
      rw [if_neg (by rw [e8, e9]; intro q; rw [q] at r7; exact absurd r7 (by decide))] at ho
      obtain ⟨-, ho⟩ := zg_s ho
      obtain ⟨z, hz, ho⟩ := zb_s ho
      have st := zGstep (cN := cN) (i := i) (c' := cnt) (of' := upd of i.toNatClampNeg e7) (gfx' := gfx) (ld' := ld) hN.2 hi hg (hx i hi.1 hi.2) (by rw [G1]; exact (zRk_f H1 (by grind) hl).symm) (fun j j1 j2 => ?_) (fun j j1 j2 j3 => ?_) G4 (fun q j j1 j2 j3 => ?_) (fun q => ?_) hz
      · refine hb _ _ ?_ ho
        refine ⟨?_, ?_, st⟩
        · show 0 ≤ i + 1
          grind
        · show i + 1 ≤ cN
          grind
      · rw [zup H1 j1]
        by_cases q : j = i
        · rw [if_pos q, q, e9]
        · rw [if_neg q]; exact G2 j j1 (by grind)
      · exact G3 j j1 (by grind) j3
      · exact G5 q j j1 (by grind) j3
      · obtain ⟨j, j1, j2, j3, j4⟩ := G6 q
        exact ⟨j, j1, by grind, j3, j4⟩
/-! what follows of it -/
theorem zGp_eq {cN gc gfr gcl : Int32} {fx jn gof gfx gld mG : Nat → Int32} {i j : Int32} (hN : cN ≤ 14) (hg : zG0 cN jn mG) (G : zGp cN gc gfr gcl gof gfx gld fx mG) (hi : 0 ≤ i ∧ i < cN) (hj : 0 ≤ j ∧ j < cN) : gof i.toNatClampNeg = gof j.toNatClampNeg ↔ mG i.toNatClampNeg = mG j.toNatClampNeg := by
  rw [G.1.2.1 i hi.1 hi.2, G.1.2.1 j hj.1 hj.2]
  obtain ⟨a1, a2, a3⟩ := hg.1 i hi.1 hi.2
  obtain ⟨b1, b2, b3⟩ := hg.1 j hj.1 hj.2
  constructor
  · intro q
    by_cases e : mG i.toNatClampNeg = mG j.toNatClampNeg
    · exact e
    · exact absurd q (zRk_ne ⟨a1, by grind⟩ ⟨b1, by grind⟩ a3 b3 e)
  · intro q
    rw [q]
noncomputable def zFree (cN : Int32) (mG fx : Nat → Int32) (g : Int32) : Prop := ∀ o : Int32, 0 ≤ o → o < cN → mG o.toNatClampNeg = g → fx o.toNatClampNeg = (-1)
theorem zGp_fx {cN gc gfr gcl : Int32} {fx jn gof gfx gld mG : Nat → Int32} {i : Int32} (hN : cN ≤ 14) (hg : zG0 cN jn mG) (G : zGp cN gc gfr gcl gof gfx gld fx mG) (hi : 0 ≤ i ∧ i < cN) : zFxS mG fx cN (mG i.toNatClampNeg) (gfx (gof i.toNatClampNeg).toNatClampNeg) := by
  obtain ⟨a1, a2, a3⟩ := hg.1 i hi.1 hi.2
  rw [G.1.2.1 i hi.1 hi.2]
  exact (G.1.2.2.1 (mG i.toNatClampNeg) a1 (by grind) a3).2
theorem zFxS_f {cN j v : Int32} {mG fx : Nat → Int32} (h : zFxS mG fx cN j v) : v = (-1) ↔ zFree cN mG fx j := by
  rcases h with ⟨a1, a2⟩ | ⟨a1, o, p, b1, b2, b3, b4, b5, b6, b7, b8, b9⟩ | ⟨a1, ⟨o, b1, b2, b3, b4⟩, a2⟩
  · exact ⟨fun _ => a2, fun _ => a1⟩
  · exact ⟨fun q => absurd (a1.symm.trans q) (by decide), fun q => absurd (q o b1 b2 b5) b7⟩
  · refine ⟨fun q => absurd a1 (by rw [q]; decide), fun q => ?_⟩
    rw [← b4]
    exact q o b1 b2 b3
theorem zFreeC (gfx mG : Nat → Int32) : ∀ k : Nat, k ≤ 14 → zct (fun g => decide (gfx g = (-1))) (zRk mG k).toNatClampNeg = zct (fun k => decide (mG k = Int32.ofNat k ∧ gfx (zRk mG k).toNatClampNeg = (-1))) k := by
  intro k
  induction k with
  | zero =>
    intro _
    show zct _ (0 : Int32).toNatClampNeg = 0
    rw [zn01.1]
    rfl
  | succ k ih =>
    intro hk
    have h := ih (by omega)
    have hb := zct_b (fun k => decide (mG k = Int32.ofNat k)) k (by omega)
    have r : 0 ≤ zRk mG k ∧ zRk mG k ≤ 1200 := ⟨Int32.le_iff_toInt_le.mpr (by rw [zi_0]; exact hb.1), Int32.le_iff_toInt_le.mpr (by rw [z1200]; exact Int.le_trans hb.2 (by omega))⟩
    by_cases c : mG k = Int32.ofNat k
    · have e : zRk mG (k + 1) = zRk mG k + 1 := by
        show zRk mG k + (if decide (mG k = Int32.ofNat k) = true then 1 else 0) = _
        rw [if_pos (decide_eq_true c)]
      by_cases d : gfx (zRk mG k).toNatClampNeg = (-1)
      · rw [e, zct_t r.1 r.2 (decide_eq_true d), h]
        show _ = zct _ k + (if decide (mG k = Int32.ofNat k ∧ gfx (zRk mG k).toNatClampNeg = (-1)) = true then 1 else 0)
        rw [if_pos (decide_eq_true ⟨c, d⟩)]
      · rw [e, zct_f r.1 r.2 (fun q => d (of_decide_eq_true q)), h]
        show _ = zct _ k + (if decide (mG k = Int32.ofNat k ∧ gfx (zRk mG k).toNatClampNeg = (-1)) = true then 1 else 0)
        rw [if_neg (fun q => d (of_decide_eq_true q).2)]
        exact (Int32.add_zero _).symm
    · have e : zRk mG (k + 1) = zRk mG k := by
        show zRk mG k + (if decide (mG k = Int32.ofNat k) = true then 1 else 0) = _
        rw [if_neg (fun q => c (of_decide_eq_true q))]
        exact Int32.add_zero _
      rw [e, h]
      show _ = zct _ k + (if decide (mG k = Int32.ofNat k ∧ gfx (zRk mG k).toNatClampNeg = (-1)) = true then 1 else 0)
      rw [if_neg (fun q => c (of_decide_eq_true q).1)]
      exact (Int32.add_zero _).symm
