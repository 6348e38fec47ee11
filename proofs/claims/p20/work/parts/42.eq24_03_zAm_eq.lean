theorem zAm_eq {L H E : Int64} {M : Int32} (hL : -6000000000000000 ≤ L.toInt ∧ L.toInt ≤ 6000000000000000) (hH : -6000000000000000 ≤ H.toInt ∧ H.toInt ≤ 6000000000000000) (hE : 0 ≤ E.toInt ∧ E.toInt ≤ 9000000000000000) (hM : M.toInt ≤ 1000000000) : (zMx (zAb (zHd L)) (zAb (zHd H)) + E ≤ M.toInt64 ↔ zMx (zAb L) (zAb H) + E ≤ M.toInt64) ∧ (zMx (zAb L) (zAb H) + E ≤ M.toInt64 → zHd L = L ∧ zHd H = H ∧ (-1000000000 ≤ L.toInt ∧ L.toInt ≤ 1000000000) ∧ (-1000000000 ≤ H.toInt ∧ H.toInt ≤ 1000000000) ∧ E.toInt ≤ 1000000000) := by
  have a1 := zAb_i (x := L) (by omega)
  have a2 := zAb_i (x := H) (by omega)
  have m1 := zMx_i (zAb L) (zAb H)
  have s1 := zoL_add (x := zMx (zAb L) (zAb H)) (y := E) rfl rfl rfl (by omega)
  have b1 := zHd_i L
  have b2 := zHd_i H
  have c1 := zAb_i (x := zHd L) (by rcases b1 with ⟨q, _⟩ | ⟨q, _⟩ | ⟨q, _⟩ <;> (rw [q]; omega))
  have c2 := zAb_i (x := zHd H) (by rcases b2 with ⟨q, _⟩ | ⟨q, _⟩ | ⟨q, _⟩ <;> (rw [q]; omega))
  have m2 := zMx_i (zAb (zHd L)) (zAb (zHd H))
  have d1 : (zHd L).toInt = L.toInt ∧ -2000000000 ≤ L.toInt ∧ L.toInt ≤ 2000000000 ∨ (zHd L).toInt = 2000000000 ∧ 2000000000 < L.toInt ∨ (zHd L).toInt = -2000000000 ∧ L.toInt < -2000000000 := b1.imp (fun q => ⟨by rw [q.1], q.2⟩) id
  have d2 : (zHd H).toInt = H.toInt ∧ -2000000000 ≤ H.toInt ∧ H.toInt ≤ 2000000000 ∨ (zHd H).toInt = 2000000000 ∧ 2000000000 < H.toInt ∨ (zHd H).toInt = -2000000000 ∧ H.toInt < -2000000000 := b2.imp (fun q => ⟨by rw [q.1], q.2⟩) id
  generalize zAb L = u1 at a1 m1 s1 ⊢
  generalize zAb H = u2 at a2 m1 s1 ⊢
  generalize zAb (zHd L) = v1 at c1 m2 ⊢
  generalize zAb (zHd H) = v2 at c2 m2 ⊢
  have bd : 0 ≤ v1.toInt ∧ v1.toInt ≤ 2000000000 ∧ 0 ≤ v2.toInt ∧ v2.toInt ≤ 2000000000 := by
    refine ⟨?_, ?_, ?_, ?_⟩ <;> omega
  have s2 := zoL_add (x := zMx v1 v2) (y := E) rfl rfl rfl (by omega)
  rw [Int64.le_iff_toInt_le, Int64.le_iff_toInt_le, s1, s2, z64_i]
  generalize (zMx u1 u2).toInt = w1 at m1 ⊢
  generalize (zMx v1 v2).toInt = w2 at m2 ⊢
  refine ⟨?_, fun q => ?_⟩
  · constructor
    · intro q; rcases d1 with d1 | d1 | d1 <;> rcases d2 with d2 | d2 | d2 <;> omega
    · intro q; rcases d1 with d1 | d1 | d1 <;> rcases d2 with d2 | d2 | d2 <;> omega
  · have k1 : -1000000000 ≤ L.toInt ∧ L.toInt ≤ 1000000000 := by omega
    have k2 : -1000000000 ≤ H.toInt ∧ H.toInt ≤ 1000000000 := by omega
    refine ⟨?_, ?_, k1, k2, by omega⟩
    · rcases b1 with ⟨e, _⟩ | ⟨_, e⟩ | ⟨_, e⟩
      · exact e
      · omega
      · omega
    · rcases b2 with ⟨e, _⟩ | ⟨_, e⟩ | ⟨_, e⟩
      · exact e
      · omega
      · omega
