theorem zOwnM {e s : Int32} {tab g : Nat → Int32} (he : 0 ≤ e ∧ e ≤ 1200) (hs : 0 ≤ s ∧ s ≤ 1200) (hse : s ≤ e) (hT : (∀ k : Nat, k < 71 → tab k = zTab k)) (hl : ∀ i : Nat, i < zSz s e → zKd (g (s.toNatClampNeg + i)) = 1) : zw (fn_X12_own e s tab g) (fun r => (-1) ≤ r ∧ r ≤ 12 ∧ (6 < e - s → r = (-1)) ∧ (∀ v : Int32, e - s ≤ 6 → v.toInt = zCV (zLV g s.toNatClampNeg (zSz s e)) → zOwS v r)) := by
  obtain ⟨a1, a2, a3, a4, a5, a6⟩ := zAdN hs.1 hse he.2
  have hz : e.toNatClampNeg - s.toNatClampNeg = zSz s e := by unfold zSz; omega
  have h6 : e - s ≤ 6 ↔ zSz s e ≤ 6 := by
    rw [Int32.le_iff_toInt_le, show (6 : Int32).toInt = 6 by decide +kernel]
    unfold zSz
    omega
  have key : ∀ n : Nat, n < 13 → (zMt g s.toNatClampNeg e.toNatClampNeg (zStT n) ↔ zSz s e ≤ 6 ∧ zCV (zLV g s.toNatClampNeg (zSz s e)) = (zOwT n).toInt) := by
    intro n hn
    obtain ⟨t1, t2, t3, t4, t5⟩ := zTabOk n hn
    have := zMt_v (g := g) (s := s.toNatClampNeg) (e := e.toNatClampNeg) (k := zStT n) t1 (fun i hi => t4 i (by omega) hi) t2 t3 (by omega) (fun i hi => zKd1 (hl i (by omega)))
    rw [hz] at this
    rw [t5]
    exact this
  refine zw_mono (zOwnL he hs hT) (fun r hr => ?_)
  rcases hr with ⟨rfl, hr⟩ | ⟨r0, r1, k, hp, hm⟩
  · refine ⟨by decide, by decide, fun _ => rfl, fun v h1 h2 => Or.inl ⟨rfl, fun w hw q => ?_⟩⟩
    obtain ⟨p1, p2, p3, p4⟩ := zPair_of w hw
    refine hr _ _ p1 p2 p3 ?_
    rw [p4]
    exact (key w hw).mpr ⟨h6.mp h1, by rw [← h2, q]⟩
  · obtain ⟨p1, p2⟩ := zPair_n hp r0 r1
    rw [p2] at hm
    have hm2 := (key _ p1).mp hm
    refine ⟨by grind, r1, fun q => ?_, fun v h1 h2 => Or.inr ⟨r0, by grind, ?_⟩⟩
    · have := h6.mpr hm2.1
      grind
    · apply Int32.toInt_inj.mp
      rw [h2]
      exact hm2.2.symm
