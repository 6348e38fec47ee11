/-! what holds of both between two calls: the CHOICE at hand, what was refused, the seed, what is kept of searches -/
theorem zHN_0 {cF gcl mHh : Int32} {gof gfx hand mH : Nat → Int32} (h : mHh = 0) : zHN 0 cF gcl mHh gof gfx hand mH := ⟨fun q => absurd q (by decide), fun _ => Or.inl h, fun q => absurd q (by decide)⟩
theorem zHN_stay {cN cF gcl : Int32} {gof gfx : Nat → Int32} {mF mN mNF mNN mS mM mC mW mCst mO m1 m2 mX mG : Nat → Int32} {mA mB : Nat → Int64} {a1 a2 a3 a4 a5 b1 b2 b3 : Int32} {r1 r2 r3 r4 r5 r6 s1 s2 : Nat → Int32} {l1 l2 : Nat → Int64} {x : Int32 × Int32 × Int32 × Int32 × Int32 × Int32 × Int32 × Int32 × Int32 × Int32 × Int32 × Int32 × Int32 × Int32 × Int32 × Int32 × Int32 × (Nat → Int32) × (Nat → Int32) × (Nat → Int32) × (Nat → Int32) × (Nat → Int32) × (Nat → Int32) × (Nat → Int32) × (Nat → Int32) × (Nat → Int32) × (Nat → Int32) × (Nat → Int32) × (Nat → Int32) × Int32 × Int32 × Int32 × (Nat → Int32) × (Nat → Int32) × (Nat → Int32) × (Nat → Int64) × (Nat → Int64) × (Nat → Int32) × (Nat → Int32) × Int32 × Int32 × Int32 × Int32 × Int32 × (Nat → Int32)} {y : Int32 × Int32 × Int32 × Int64 × Int32 × Int32 × Int32 × Int32 × Int32 × Int32 × Int32 × Int32 × Int32 × Int32 × (Nat → Int32) × (Nat → Int32) × (Nat → Int32) × (Nat → Int32) × (Nat → Int32) × (Nat → Int32) × (Nat → Int32) × (Nat → Int32) × (Nat → Int32) × (Nat → Int32) × (Nat → Int32) × (Nat → Int32) × (Nat → Int32) × (Nat → Int32) × (Nat → Int64) × (Nat → Int64) × (Nat → Int32) × (Nat → Int32)} (H : zHN cN cF gcl b1 gof gfx r1 s1) (Q : zTQ a1 a2 a3 a4 a5 r1 r2 r3 r4 r5 r6 l1 l2 b1 b2 b3 s1 s2 mF mN mNF mNN mS mM mC mW mCst mO m1 m2 mX mG mA mB x y) (e : x.2.2.1 = 0) : zHN cN cF gcl y.2.2.2.2.2.1 gof gfx x.2.2.2.2.2.2.2.2.2.2.2.2.2.2.2.2.2.2.2.2.2.2.2.2.2.2.2.2.2.2.2.2.2.2.2.2.2.2.1 y.2.2.2.2.2.2.2.2.2.2.2.2.2.2.2.2.2.2.2.2.2.2.2.2.2.2.2.2.2.2.1 := by
  rcases Q with ⟨_, _, _, q1, q2, q3, _⟩ | ⟨q, _⟩
  · rw [q1, q2, q3]; exact H
  · rw [q] at e; exact absurd e (by decide)
theorem zHN_swap {mF mN mNF mNN mS mM mC mW mCst mO m1 m2 mX mG : Nat → Int32} {mA mB : Nat → Int64} {a1 a2 a3 a4 a5 b1 b2 b3 : Int32} {r1 r2 r3 r4 r5 r6 s1 s2 : Nat → Int32} {l1 l2 : Nat → Int64} {x : Int32 × Int32 × Int32 × Int32 × Int32 × Int32 × Int32 × Int32 × Int32 × Int32 × Int32 × Int32 × Int32 × Int32 × Int32 × Int32 × Int32 × (Nat → Int32) × (Nat → Int32) × (Nat → Int32) × (Nat → Int32) × (Nat → Int32) × (Nat → Int32) × (Nat → Int32) × (Nat → Int32) × (Nat → Int32) × (Nat → Int32) × (Nat → Int32) × (Nat → Int32) × Int32 × Int32 × Int32 × (Nat → Int32) × (Nat → Int32) × (Nat → Int32) × (Nat → Int64) × (Nat → Int64) × (Nat → Int32) × (Nat → Int32) × Int32 × Int32 × Int32 × Int32 × Int32 × (Nat → Int32)} {y : Int32 × Int32 × Int32 × Int64 × Int32 × Int32 × Int32 × Int32 × Int32 × Int32 × Int32 × Int32 × Int32 × Int32 × (Nat → Int32) × (Nat → Int32) × (Nat → Int32) × (Nat → Int32) × (Nat → Int32) × (Nat → Int32) × (Nat → Int32) × (Nat → Int32) × (Nat → Int32) × (Nat → Int32) × (Nat → Int32) × (Nat → Int32) × (Nat → Int32) × (Nat → Int32) × (Nat → Int64) × (Nat → Int64) × (Nat → Int32) × (Nat → Int32)} (Q : zTQ a1 a2 a3 a4 a5 r1 r2 r3 r4 r5 r6 l1 l2 b1 b2 b3 s1 s2 mF mN mNF mNN mS mM mC mW mCst mO m1 m2 mX mG mA mB x y) (e : x.2.2.1 = 1) : zHN x.2.2.2.2.2.2.2.2.2.1 x.2.2.2.2.2.2.2.1 x.2.2.2.2.2.2.2.2.2.2.2.2.2.2.2.2.2.2.2.2.2.2.2.2.2.2.2.2.2.2.2.1 y.2.2.2.2.2.1 x.2.2.2.2.2.2.2.2.2.2.2.2.2.2.2.2.2.2.2.2.2.2.2.2.2.2.2.2.2.2.2.2.1 x.2.2.2.2.2.2.2.2.2.2.2.2.2.2.2.2.2.2.2.2.2.2.2.2.2.2.2.2.2.2.2.2.2.2.1 x.2.2.2.2.2.2.2.2.2.2.2.2.2.2.2.2.2.2.2.2.2.2.2.2.2.2.2.2.2.2.2.2.2.2.2.2.2.2.1 y.2.2.2.2.2.2.2.2.2.2.2.2.2.2.2.2.2.2.2.2.2.2.2.2.2.2.2.2.2.2.1 := by
  have T := zTN_swap Q e
  have G := zGp_swap Q e
  rcases Q with ⟨q, _⟩ | ⟨_, _, _, _, _, q1, q2, _⟩
  · rw [q] at e; exact absurd e (by decide)
  · exact zHN_of T G q1 q2
theorem zRf_task {mF mN mNF mNN mS mM mC mW mCst mO m1 m2 mX mG : Nat → Int32} {mA mB : Nat → Int64} {a1 a2 a3 a4 a5 b1 b2 b3 : Int32} {r1 r2 r3 r4 r5 r6 s1 s2 : Nat → Int32} {l1 l2 : Nat → Int64} {x : Int32 × Int32 × Int32 × Int32 × Int32 × Int32 × Int32 × Int32 × Int32 × Int32 × Int32 × Int32 × Int32 × Int32 × Int32 × Int32 × Int32 × (Nat → Int32) × (Nat → Int32) × (Nat → Int32) × (Nat → Int32) × (Nat → Int32) × (Nat → Int32) × (Nat → Int32) × (Nat → Int32) × (Nat → Int32) × (Nat → Int32) × (Nat → Int32) × (Nat → Int32) × Int32 × Int32 × Int32 × (Nat → Int32) × (Nat → Int32) × (Nat → Int32) × (Nat → Int64) × (Nat → Int64) × (Nat → Int32) × (Nat → Int32) × Int32 × Int32 × Int32 × Int32 × Int32 × (Nat → Int32)} {y : Int32 × Int32 × Int32 × Int64 × Int32 × Int32 × Int32 × Int32 × Int32 × Int32 × Int32 × Int32 × Int32 × Int32 × (Nat → Int32) × (Nat → Int32) × (Nat → Int32) × (Nat → Int32) × (Nat → Int32) × (Nat → Int32) × (Nat → Int32) × (Nat → Int32) × (Nat → Int32) × (Nat → Int32) × (Nat → Int32) × (Nat → Int32) × (Nat → Int32) × (Nat → Int32) × (Nat → Int64) × (Nat → Int64) × (Nat → Int32) × (Nat → Int32)} (E : r2 = s2) (Q : zTQ a1 a2 a3 a4 a5 r1 r2 r3 r4 r5 r6 l1 l2 b1 b2 b3 s1 s2 mF mN mNF mNN mS mM mC mW mCst mO m1 m2 mX mG mA mB x y) : x.2.2.2.2.2.2.2.2.2.2.2.2.2.2.2.2.2.2.2.2.2.2.2.2.2.2.2.2.2.2.2.2.2.2.2.2.2.2.2.2.2.2.2.2 = y.2.2.2.2.2.2.2.2.2.2.2.2.2.2.2.2.2.2.2.2.2.2.2.2.2.2.2.2.2.2.2 := by
  rcases Q with ⟨_, _, _, _, _, _, _, _, _, _, _, _, _, q1, q2⟩ | ⟨_, _, _, _, _, _, _, _, _, _, _, _, _, _, q1, q2⟩
  · rw [q1, q2, E]
  · rw [q1, q2, E]
theorem zFC_stay {cF cc cN gc gfr gcl uAn uMn uBs uBp : Int32} {stp mst prc al made amt op gof gfx mF mN mCst mNF mNN mS mM mC mW mO m1 m2 mX mG uP uE : Nat → Int32} {rlo rhi mA mB : Nat → Int64} {nQP nQE : Nat} {a1 a2 a3 a4 a5 b1 b2 b3 : Int32} {r1 r2 r3 r4 r5 r6 s1 s2 : Nat → Int32} {l1 l2 : Nat → Int64} {x : Int32 × Int32 × Int32 × Int32 × Int32 × Int32 × Int32 × Int32 × Int32 × Int32 × Int32 × Int32 × Int32 × Int32 × Int32 × Int32 × Int32 × (Nat → Int32) × (Nat → Int32) × (Nat → Int32) × (Nat → Int32) × (Nat → Int32) × (Nat → Int32) × (Nat → Int32) × (Nat → Int32) × (Nat → Int32) × (Nat → Int32) × (Nat → Int32) × (Nat → Int32) × Int32 × Int32 × Int32 × (Nat → Int32) × (Nat → Int32) × (Nat → Int32) × (Nat → Int64) × (Nat → Int64) × (Nat → Int32) × (Nat → Int32) × Int32 × Int32 × Int32 × Int32 × Int32 × (Nat → Int32)} {y : Int32 × Int32 × Int32 × Int64 × Int32 × Int32 × Int32 × Int32 × Int32 × Int32 × Int32 × Int32 × Int32 × Int32 × (Nat → Int32) × (Nat → Int32) × (Nat → Int32) × (Nat → Int32) × (Nat → Int32) × (Nat → Int32) × (Nat → Int32) × (Nat → Int32) × (Nat → Int32) × (Nat → Int32) × (Nat → Int32) × (Nat → Int32) × (Nat → Int32) × (Nat → Int32) × (Nat → Int64) × (Nat → Int64) × (Nat → Int32) × (Nat → Int32)} (F : zFC cF cc cN gc gfr gcl gof gfx stp mst prc al made amt op rlo rhi a1 uAn uMn uBs uBp uP nQP uE nQE) (Q : zTQ a1 a2 a3 a4 a5 r1 r2 r3 r4 r5 r6 l1 l2 b1 b2 b3 s1 s2 mF mN mNF mNN mS mM mC mW mCst mO m1 m2 mX mG mA mB x y) (e : x.2.2.1 = 0) : zFC cF cc cN gc gfr gcl gof gfx stp mst prc al made amt op rlo rhi x.2.2.2.2.2.2.2.2.2.2.2.2.2.2.2.2.2.2.2.2.2.2.2.2.2.2.2.2.2.2.2.2.2.2.2.2.2.2.2.1 uAn uMn uBs uBp uP nQP uE nQE := by
  rcases Q with ⟨_, _, _, _, _, _, _, _, _, _, q, _⟩ | ⟨q, _⟩
  · rw [q]; exact F
  · rw [q] at e; exact absurd e (by decide)
theorem zFC_swap {cF cc cN gc gfr gcl uAn uMn uBs uBp : Int32} {stp mst prc al made amt op gof gfx mF mN mCst mNF mNN mS mM mC mW mO m1 m2 mX mG uP uE : Nat → Int32} {rlo rhi mA mB : Nat → Int64} {nQP nQE : Nat} {a1 a2 a3 a4 a5 b1 b2 b3 : Int32} {r1 r2 r3 r4 r5 r6 s1 s2 : Nat → Int32} {l1 l2 : Nat → Int64} {x : Int32 × Int32 × Int32 × Int32 × Int32 × Int32 × Int32 × Int32 × Int32 × Int32 × Int32 × Int32 × Int32 × Int32 × Int32 × Int32 × Int32 × (Nat → Int32) × (Nat → Int32) × (Nat → Int32) × (Nat → Int32) × (Nat → Int32) × (Nat → Int32) × (Nat → Int32) × (Nat → Int32) × (Nat → Int32) × (Nat → Int32) × (Nat → Int32) × (Nat → Int32) × Int32 × Int32 × Int32 × (Nat → Int32) × (Nat → Int32) × (Nat → Int32) × (Nat → Int64) × (Nat → Int64) × (Nat → Int32) × (Nat → Int32) × Int32 × Int32 × Int32 × Int32 × Int32 × (Nat → Int32)} {y : Int32 × Int32 × Int32 × Int64 × Int32 × Int32 × Int32 × Int32 × Int32 × Int32 × Int32 × Int32 × Int32 × Int32 × (Nat → Int32) × (Nat → Int32) × (Nat → Int32) × (Nat → Int32) × (Nat → Int32) × (Nat → Int32) × (Nat → Int32) × (Nat → Int32) × (Nat → Int32) × (Nat → Int32) × (Nat → Int32) × (Nat → Int32) × (Nat → Int32) × (Nat → Int32) × (Nat → Int64) × (Nat → Int64) × (Nat → Int32) × (Nat → Int32)} (Q : zTQ a1 a2 a3 a4 a5 r1 r2 r3 r4 r5 r6 l1 l2 b1 b2 b3 s1 s2 mF mN mNF mNN mS mM mC mW mCst mO m1 m2 mX mG mA mB x y) (e : x.2.2.1 = 1) : zFC cF cc cN gc gfr gcl gof gfx stp mst prc al made amt op rlo rhi x.2.2.2.2.2.2.2.2.2.2.2.2.2.2.2.2.2.2.2.2.2.2.2.2.2.2.2.2.2.2.2.2.2.2.2.2.2.2.2.1 uAn uMn uBs uBp uP nQP uE nQE := by
  rcases Q with ⟨q, _⟩ | ⟨_, _, _, _, _, _, _, _, _, _, _, q, _⟩
  · rw [q] at e; exact absurd e (by decide)
  · exact Or.inl q
theorem zLC_stay {cF cc cN gc gcl vSt vPr vTs : Int32} {stp mst prc al made amt op gof gfx mF mN mCst mNF mNN mS mM mC mW mO m1 m2 mX mG vRw : Nat → Int32} {rlo rhi mA mB : Nat → Int64} {a1 a2 a3 a4 a5 b1 b2 b3 : Int32} {r1 r2 r3 r4 r5 r6 s1 s2 : Nat → Int32} {l1 l2 : Nat → Int64} {x : Int32 × Int32 × Int32 × Int32 × Int32 × Int32 × Int32 × Int32 × Int32 × Int32 × Int32 × Int32 × Int32 × Int32 × Int32 × Int32 × Int32 × (Nat → Int32) × (Nat → Int32) × (Nat → Int32) × (Nat → Int32) × (Nat → Int32) × (Nat → Int32) × (Nat → Int32) × (Nat → Int32) × (Nat → Int32) × (Nat → Int32) × (Nat → Int32) × (Nat → Int32) × Int32 × Int32 × Int32 × (Nat → Int32) × (Nat → Int32) × (Nat → Int32) × (Nat → Int64) × (Nat → Int64) × (Nat → Int32) × (Nat → Int32) × Int32 × Int32 × Int32 × Int32 × Int32 × (Nat → Int32)} {y : Int32 × Int32 × Int32 × Int64 × Int32 × Int32 × Int32 × Int32 × Int32 × Int32 × Int32 × Int32 × Int32 × Int32 × (Nat → Int32) × (Nat → Int32) × (Nat → Int32) × (Nat → Int32) × (Nat → Int32) × (Nat → Int32) × (Nat → Int32) × (Nat → Int32) × (Nat → Int32) × (Nat → Int32) × (Nat → Int32) × (Nat → Int32) × (Nat → Int32) × (Nat → Int32) × (Nat → Int64) × (Nat → Int64) × (Nat → Int32) × (Nat → Int32)} (F : zLC cF cc cN gc gcl gof gfx stp mst prc al made amt op rlo rhi a3 vSt vPr vTs vRw) (Q : zTQ a1 a2 a3 a4 a5 r1 r2 r3 r4 r5 r6 l1 l2 b1 b2 b3 s1 s2 mF mN mNF mNN mS mM mC mW mCst mO m1 m2 mX mG mA mB x y) (e : x.2.2.1 = 0) : zLC cF cc cN gc gcl gof gfx stp mst prc al made amt op rlo rhi x.2.2.2.2.2.2.2.2.2.2.2.2.2.2.2.2.2.2.2.2.2.2.2.2.2.2.2.2.2.2.2.2.2.2.2.2.2.2.2.2.2.1 vSt vPr vTs vRw := by
  rcases Q with ⟨_, _, _, _, _, _, _, _, _, _, _, _, q, _⟩ | ⟨q, _⟩
  · rw [q]; exact F
  · rw [q] at e; exact absurd e (by decide)
theorem zLC_swap {cF cc cN gc gcl vSt vPr vTs : Int32} {stp mst prc al made amt op gof gfx mF mN mCst mNF mNN mS mM mC mW mO m1 m2 mX mG vRw : Nat → Int32} {rlo rhi mA mB : Nat → Int64} {a1 a2 a3 a4 a5 b1 b2 b3 : Int32} {r1 r2 r3 r4 r5 r6 s1 s2 : Nat → Int32} {l1 l2 : Nat → Int64} {x : Int32 × Int32 × Int32 × Int32 × Int32 × Int32 × Int32 × Int32 × Int32 × Int32 × Int32 × Int32 × Int32 × Int32 × Int32 × Int32 × Int32 × (Nat → Int32) × (Nat → Int32) × (Nat → Int32) × (Nat → Int32) × (Nat → Int32) × (Nat → Int32) × (Nat → Int32) × (Nat → Int32) × (Nat → Int32) × (Nat → Int32) × (Nat → Int32) × (Nat → Int32) × Int32 × Int32 × Int32 × (Nat → Int32) × (Nat → Int32) × (Nat → Int32) × (Nat → Int64) × (Nat → Int64) × (Nat → Int32) × (Nat → Int32) × Int32 × Int32 × Int32 × Int32 × Int32 × (Nat → Int32)} {y : Int32 × Int32 × Int32 × Int64 × Int32 × Int32 × Int32 × Int32 × Int32 × Int32 × Int32 × Int32 × Int32 × Int32 × (Nat → Int32) × (Nat → Int32) × (Nat → Int32) × (Nat → Int32) × (Nat → Int32) × (Nat → Int32) × (Nat → Int32) × (Nat → Int32) × (Nat → Int32) × (Nat → Int32) × (Nat → Int32) × (Nat → Int32) × (Nat → Int32) × (Nat → Int32) × (Nat → Int64) × (Nat → Int64) × (Nat → Int32) × (Nat → Int32)} (Q : zTQ a1 a2 a3 a4 a5 r1 r2 r3 r4 r5 r6 l1 l2 b1 b2 b3 s1 s2 mF mN mNF mNN mS mM mC mW mCst mO m1 m2 mX mG mA mB x y) (e : x.2.2.1 = 1) : zLC cF cc cN gc gcl gof gfx stp mst prc al made amt op rlo rhi x.2.2.2.2.2.2.2.2.2.2.2.2.2.2.2.2.2.2.2.2.2.2.2.2.2.2.2.2.2.2.2.2.2.2.2.2.2.2.2.2.2.1 vSt vPr vTs vRw := by
  rcases Q with ⟨q, _⟩ | ⟨_, _, _, _, _, _, _, _, _, _, _, _, _, q, _⟩
  · rw [q] at e; exact absurd e (by decide)
  · exact Or.inl q
theorem zrf_feed {p1 p2 p3 p4 p5 v w : Int32} {f1 f2 g1 g2 : Nat → Int32} {o o' : Int32 × Int32 × (Nat → Int32) × (Nat → Int32)} (e : v = w) (hv : 0 ≤ v ∧ v ≤ 1200) (E : f2 = g2) (h1 : fn_X11_feed p1 p2 p3 p4 p5 v f1 f2 = some o) (h2 : fn_X12_feed p1 p2 p3 p4 p5 w g1 g2 = some o') : o.2.2.2 = o'.2.2.2 := by
  subst e E
  unfold fn_X11_feed at h1
  unfold fn_X12_feed at h2
  by_cases c : v ≤ 1180
  · rw [if_pos c] at h1
    rw [if_pos ((zAp20 hv).mp c)] at h2
    obtain ⟨_, _, h1⟩ := zb_s h1
    obtain ⟨_, _, h1⟩ := zb_s h1
    obtain ⟨_, _, h1⟩ := zb_s h1
    obtain ⟨_, _, h1⟩ := zb_s h1
    obtain ⟨_, _, h1⟩ := zb_s h1
    obtain ⟨_, _, h2⟩ := zb_s h2
    obtain ⟨_, _, h2⟩ := zb_s h2
    obtain ⟨_, _, h2⟩ := zb_s h2
    obtain ⟨_, _, h2⟩ := zb_s h2
    obtain ⟨_, _, h2⟩ := zb_s h2
    rw [← Option.some.inj h1, ← Option.some.inj h2]
  · rw [if_neg c] at h1
    rw [if_neg (fun q => c ((zAp20 hv).mpr q))] at h2
    obtain ⟨a, ha, h1⟩ := zb_s h1
    obtain ⟨b, hb, h2⟩ := zb_s h2
    rw [← Option.some.inj h1, ← Option.some.inj h2, zref (by decide) ha, zrefM hb]
theorem zrf_end {p v w : Int32} {f g : Nat → Int32} {o o' : Int32 × Int32 × (Nat → Int32)} (e : v = w) (E : f = g) (h1 : fn_X11_end p v f = some o) (h2 : fn_X12_end p w g = some o') : o.2.2 = o'.2.2 := by
  subst e E
  unfold fn_X11_end at h1
  unfold fn_X12_end at h2
  by_cases c : p < 0
  · rw [if_pos c] at h1 h2
    obtain ⟨a, ha, h1⟩ := zb_s h1
    obtain ⟨b, hb, h2⟩ := zb_s h2
    rw [← Option.some.inj h1, ← Option.some.inj h2, zref (by decide) ha, zrefB hb]
  · rw [if_neg c] at h1 h2
    by_cases c2 : p ≤ v
    · rw [if_pos c2] at h1 h2
      rw [← Option.some.inj h1, ← Option.some.inj h2]
    · rw [if_neg c2] at h1 h2
      obtain ⟨a, ha, h1⟩ := zb_s h1
      obtain ⟨b, hb, h2⟩ := zb_s h2
      rw [← Option.some.inj h1, ← Option.some.inj h2, zref (by decide) ha, zrefB hb]
theorem zrf_seed {p v w : Int32} {f g : Nat → Int32} {o o' : Int32 × Int32 × (Nat → Int32)} (E : f = g) (h1 : fn_X11_seed p v f = some o) (h2 : fn_X12_seed p w g = some o') : o.2.2 = o'.2.2 := by
  subst E
  unfold fn_X11_seed at h1
  unfold fn_X12_seed at h2
  by_cases c : 0 ≤ p
  · rw [if_pos c] at h1 h2
    rw [← Option.some.inj h1, ← Option.some.inj h2]
  · rw [if_neg c] at h1 h2
    obtain ⟨a, ha, h1⟩ := zb_s h1
    obtain ⟨b, hb, h2⟩ := zb_s h2
    rw [← Option.some.inj h1, ← Option.some.inj h2, zref (by decide) ha, zrefB hb]
theorem zsd_seed {p v w : Int32} {f g : Nat → Int32} {o o' : Int32 × Int32 × (Nat → Int32)} (E : v = w ∧ 0 ≤ v) (h1 : fn_X11_seed p v f = some o) (h2 : fn_X12_seed p w g = some o') : o.2.1 = o'.2.1 ∧ 0 ≤ o.2.1 := by
  unfold fn_X11_seed at h1
  unfold fn_X12_seed at h2
  by_cases c : 0 ≤ p
  · rw [if_pos c] at h1 h2
    rw [← Option.some.inj h1, ← Option.some.inj h2]
    exact ⟨rfl, c⟩
  · rw [if_neg c] at h1 h2
    obtain ⟨a, ha, h1⟩ := zb_s h1
    obtain ⟨b, hb, h2⟩ := zb_s h2
    rw [← Option.some.inj h1, ← Option.some.inj h2]
    exact E
