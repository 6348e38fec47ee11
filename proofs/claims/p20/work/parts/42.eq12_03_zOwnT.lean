/-- the reference's own word, where the class has read a word -/
theorem zOwnT {n a e k s v o : Int32} {f g tab : Nat → Int32} (hn : n ≤ 1200) (ha : 0 ≤ a ∧ a ≤ n) (hT : (∀ k : Nat, k < 71 → tab k = zTab k)) (T : zTok n f g a e k s v o) (h : zIsW n g a s) : zw (fn_X12_own e s tab g) (fun r => k = 1 ∧ r = o ∨ k = 4 ∧ r = (-1)) := by
  obtain ⟨b1, b2, b3, b4⟩ := zTok_b ha T
  obtain ⟨hr, hk⟩ := zTok_w T h
  have hs : 0 ≤ s ∧ s ≤ 1200 := ⟨b1, by grind⟩
  have he : 0 ≤ e ∧ e ≤ 1200 := ⟨by grind, by grind⟩
  refine zw_mono (zOwnM he hs b3 hT (fun i hi => zRun_l b1 b3 b4 hn hr.2.1 i hi)) (fun r hw => ?_)
  obtain ⟨_, _, w1, w2⟩ := hw
  rcases hk with ⟨k1, k2, k3, k4⟩ | ⟨k1, k2⟩
  · exact Or.inl ⟨k1, zOwS_un (w2 v k2 k3) k4⟩
  · exact Or.inr ⟨k1, w1 k2⟩
