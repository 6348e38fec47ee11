/-! THE CLAIM OUT OF ONE WALK OF THE LAW'S BODY. Your part is whole_start (and what it stands on); all else here is the same for every law, but numbers. -/
noncomputable def R_law : String := "ShortEnoughLaw"
noncomputable def lw_P (b : Addr) (xs : List Int32) (args : Array Value) (s : State) : Prop := args = #[.ref b] ∧ s.IntsAt b xs ∧ xs.length ≤ 3072 ∧ (Jvm.Cond.and given_1 narrow_1).before args s = true
noncomputable def lw_Q (_ : Array Value) (s : State) (o : Outcome) (t : State) : Prop := o = .returned (some (.int 1)) ∧ Framed s o t [] 600000 7302250
noncomputable def lw_Z (below : List Frame) (a : Array Value) (s : State) : State → Prop := fun t => ∃ o, t.status = .running ∧ Ended t below o ∧ lw_Q a s o t
/-- the law's own end, with 1 on the stack, nothing written that was there before, its room as the claim has it -/
theorem lw_ret {p : Program} {l : Launch} {e : Env} {s : State} {m : MethodId} {below : List Frame} {meth : Method} {c : Code} {b : Nat} (hx : p.tables.exec = Jvm.exec) (hb : c.code = code) (hr : meth.sig.returnType = ret) (hlocks : meth.locks = false) {pc : Nat} {H : Heap} {ls : Array Slot} (hdg : decode code pc = .ok (.ireturn, 1)) : W p l e room_1 s m #[Value.ref b] below meth c H [] 600000 7302250 (lw_Z below #[Value.ref b] s) (F0 m pc ls [.int 1]) := by
  intro T hT X
  obtain ⟨fs, hret, hrun, hended, hW, hframe⟩ := X.leave (v := some (.int 1)) (hlocks := hlocks) (fun h => by rw [hr] at h; cases h)
  have hmeth' : T.vm.method? m = some meth := X.method'
  refine ⟨T.setFrames fs, ?_, .returned (some (.int 1)), hrun, hended, rfl, ⟨_, rfl⟩, hW, hframe⟩
  jvm_step X.here [X.here.top, hx, hb, hdg, hmeth', hr, ret, narrow_b1]
  (try refine ⟨rfl, ?_⟩); (try refine ⟨rfl, ?_⟩)
  first | (intro acts; rw [hret _ acts rfl rfl rfl]) | rw [hret _ _ rfl rfl rfl]
  exact Steps.refl _
/-- what holds at the law's entry: the machine, the code, the tables' words (any of lw_tbl by 'hts w (by decide +kernel)'), the script of L ints xs at the cell b, what the Statement gives of the start (any of its parts by flat_of_before) -/
noncomputable def lw_At (p : Program) (s : State) (m : MethodId) (meth : Method) (c : Code) (b L : Nat) (xs : Nat → Int32) : Prop :=
  p.tables.exec = Jvm.exec ∧ c.code = code ∧ meth.sig.returnType = ret ∧ c.maxLocals = 4 ∧ s.vm.findClass R_law = some m.cls ∧ (∀ w ∈ lw_tbl, w.before #[Value.ref b] s = true) ∧ va_X b L xs s s.heap ∧ b < s.heap.size ∧ meth.locks = false ∧ (Jvm.Cond.and given_1 narrow_1).before #[Value.ref b] s = true

/-! the worlds of class and reference, by rows of numbers -/
noncomputable def zN (f : Nat → Nat) (k : Nat) (x : Nat) (j : Nat) : Nat := cond (Nat.beq j k) x (f j)
noncomputable def zF2 (f : Nat → Nat → Int32) (k : Nat) (x : Nat → Int32) (j : Nat) : Nat → Int32 := cond (Nat.beq j k) x (f j)
noncomputable def zJ2 (f : Nat → Nat → Int64) (k : Nat) (x : Nat → Int64) (j : Nat) : Nat → Int64 := cond (Nat.beq j k) x (f j)
noncomputable def zWX (qx : Nat) (R K : Nat → Nat) (I : Nat → Int32) (F : Nat → Nat → Int32) (J : Nat → Nat → Int64) (N : Nat → Nat) : va_W := [zV11 qx (R 0) (I 0) (R 1) (R 2) (R 3) (R 4) (R 5) (R 6) (R 7) (R 8) (R 9) (R 10) (R 11) (R 12) (R 13) (I 1), zVi (R 0) (K 0) 1200 (F 0), zVi (R 1) (K 1) 5 (F 1), zV5 (R 2) (R 14) (I 2) (I 3) (I 4), zV10 (R 14) (R 15) (R 16) (I 5) (I 6) (I 7) (I 8) (I 9) (I 10), zVi (R 15) (K 2) 13 (F 2), zV9 (R 3) (I 11) (R 17) (R 18) (R 19) (R 20) (I 12) (R 21) (R 22) (R 23), zVi (R 17) (K 3) 4 (F 3), zVi (R 18) (K 4) 4 (F 4), zVi (R 19) (K 5) 4 (F 5), zVi (R 20) (K 6) 4 (F 6), zV4 (R 21) (I 13) (I 14) (R 24) (R 25) (R 26) (R 27) (R 28) (R 29) (R 30) (R 31), zVi (R 24) (K 7) 14 (F 7), zVi (R 25) (K 8) 14 (F 8), zVi (R 26) (K 9) 14 (F 9), zVi (R 27) (K 10) 14 (F 10), zVi (R 28) (K 11) 14 (F 11), zVi (R 29) (K 12) 14 (F 12), zVi (R 30) (K 13) 28 (F 13), zVi (R 31) (K 14) 28 (F 14), zV2 (R 22) (I 15) (I 16) (I 17) (R 32) (R 33) (R 34), zVi (R 32) (K 15) 14 (F 15), zVi (R 33) (K 16) 14 (F 16), zVi (R 34) (K 17) 14 (F 17), zV6 (R 23) (R 35) (R 36) (R 37), zVl (R 35) (K 18) 14 (J 0), zVl (R 36) (K 19) 14 (J 1), zVi (R 37) (K 20) 14 (F 18), zV9 (R 4) (I 18) (R 38) (R 39) (R 40) (R 41) (I 19) (R 42) (R 43) (R 44), zVi (R 38) (K 21) 4 (F 19), zVi (R 39) (K 22) 4 (F 20), zVi (R 40) (K 23) 4 (F 21), zVi (R 41) (K 24) 4 (F 22), zV4 (R 42) (I 20) (I 21) (R 45) (R 46) (R 47) (R 48) (R 49) (R 50) (R 51) (R 52), zVi (R 45) (K 25) 14 (F 23), zVi (R 46) (K 26) 14 (F 24), zVi (R 47) (K 27) 14 (F 25), zVi (R 48) (K 28) 14 (F 26), zVi (R 49) (K 29) 14 (F 27), zVi (R 50) (K 30) 14 (F 28), zVi (R 51) (K 31) 28 (F 29), zVi (R 52) (K 32) 28 (F 30), zV2 (R 43) (I 22) (I 23) (I 24) (R 53) (R 54) (R 55), zVi (R 53) (K 33) 14 (F 31), zVi (R 54) (K 34) 14 (F 32), zVi (R 55) (K 35) 14 (F 33), zV6 (R 44) (R 56) (R 57) (R 58), zVl (R 56) (K 36) 14 (J 2), zVl (R 57) (K 37) 14 (J 3), zVi (R 58) (K 38) 14 (F 34), zVi (R 5) (K 39) 14 (F 35), zVi (R 6) (K 40) 14 (F 36), zV7 (R 7) (R 59) (I 25) (I 26), zVl (R 59) (K 41) 14 (J 4), zV7 (R 8) (R 60) (I 27) (I 28), zVl (R 60) (K 42) 14 (J 5), zV6 (R 9) (R 61) (R 62) (R 63), zVl (R 61) (K 43) 14 (J 6), zVl (R 62) (K 44) 14 (J 7), zVi (R 63) (K 45) 14 (F 37), zV1 (R 10) (R 64) (R 65) (I 29) (I 30) (R 66) (R 67) (I 31) (I 32) (I 33) (I 34) (I 35) (R 68) (R 69) (R 70), zV7 (R 64) (R 71) (I 36) (I 37), zVl (R 71) (K 46) 14 (J 8), zVi (R 65) (K 47) 14 (F 38), zVi (R 66) (K 48) (N 0) (F 39), zVi (R 67) (K 49) (N 1) (F 40), zVi (R 68) (K 50) (N 2) (F 41), zVi (R 69) (K 51) (N 3) (F 42), zVi (R 70) (K 52) (N 4) (F 43), zV3 (R 11) (R 72) (R 73) (I 38) (I 39) (R 74) (R 75) (R 76) (R 77) (I 40) (R 78) (I 41) (I 42) (I 43) (I 44) (I 45) (I 46), zV7 (R 72) (R 79) (I 47) (I 48), zVl (R 79) (K 53) 14 (J 9), zVi (R 73) (K 54) 14 (F 44), zVi (R 74) (K 55) 14 (F 45), zVi (R 75) (K 56) 14 (F 46), zVi (R 76) (K 57) 28 (F 47), zVi (R 77) (K 58) 28 (F 48), zVi (R 78) (K 59) 14 (F 49), zV0 (R 12) (R 80) (R 81) (R 82) (I 49) (I 50), zV6 (R 80) (R 83) (R 84) (R 85), zVl (R 83) (K 60) 14 (J 10), zVl (R 84) (K 61) 14 (J 11), zVi (R 85) (K 62) 14 (F 50), zV7 (R 81) (R 86) (I 51) (I 52), zVl (R 86) (K 63) 14 (J 12), zVi (R 82) (K 64) 14 (F 51), zV8 (R 13) (R 87) (R 88), zVl (R 87) (K 65) 14 (J 13), zVl (R 88) (K 66) 14 (J 14)]
noncomputable def zTyX (K : Nat → Nat) : List (ClassId × FieldType) := [((K 0), .byte), ((K 1), .int), ((K 2), .int), ((K 3), .int), ((K 4), .int), ((K 5), .int), ((K 6), .int), ((K 7), .int), ((K 8), .int), ((K 9), .int), ((K 10), .int), ((K 11), .int), ((K 12), .int), ((K 13), .int), ((K 14), .int), ((K 15), .int), ((K 16), .int), ((K 17), .int), ((K 18), .long), ((K 19), .long), ((K 20), .boolean), ((K 21), .int), ((K 22), .int), ((K 23), .int), ((K 24), .int), ((K 25), .int), ((K 26), .int), ((K 27), .int), ((K 28), .int), ((K 29), .int), ((K 30), .int), ((K 31), .int), ((K 32), .int), ((K 33), .int), ((K 34), .int), ((K 35), .int), ((K 36), .long), ((K 37), .long), ((K 38), .boolean), ((K 39), .int), ((K 40), .int), ((K 41), .long), ((K 42), .long), ((K 43), .long), ((K 44), .long), ((K 45), .boolean), ((K 46), .long), ((K 47), .int), ((K 48), .int), ((K 49), .int), ((K 50), .int), ((K 51), .int), ((K 52), .int), ((K 53), .long), ((K 54), .int), ((K 55), .boolean), ((K 56), .int), ((K 57), .int), ((K 58), .int), ((K 59), .int), ((K 60), .long), ((K 61), .long), ((K 62), .boolean), ((K 63), .long), ((K 64), .int), ((K 65), .long), ((K 66), .long)]
noncomputable def zWM (qm : Nat) (a0 : Nat → Nat) (kM : Nat → Nat) (b0 : Nat → Int32) (c0 : Nat → Int64) (fM : Nat → Nat → Int32) (jM : Nat → Nat → Int64) : va_W := [(qm, .inr (12, zO a0 b0 c0)), zVi (a0 0) (kM 0) 1200 (fM 0), zVi (a0 2) (kM 2) 5 (fM 2), zVi (a0 10) (kM 10) 71 (fM 10), zVi (a0 12) (kM 12) 2 (fM 12), zVi (a0 13) (kM 13) 8 (fM 13), zVi (a0 14) (kM 14) 8 (fM 14), zVi (a0 15) (kM 15) 8 (fM 15), zVi (a0 16) (kM 16) 8 (fM 16), zVi (a0 17) (kM 17) 2 (fM 17), zVi (a0 18) (kM 18) 28 (fM 18), zVi (a0 19) (kM 19) 28 (fM 19), zVi (a0 20) (kM 20) 28 (fM 20), zVi (a0 21) (kM 21) 28 (fM 21), zVl (a0 22) (kM 22) 28 (jM 22), zVl (a0 23) (kM 23) 28 (jM 23), zVi (a0 24) (kM 24) 2 (fM 24), zVi (a0 25) (kM 25) 28 (fM 25), zVi (a0 26) (kM 26) 28 (fM 26), zVi (a0 27) (kM 27) 28 (fM 27), zVi (a0 29) (kM 29) 14 (fM 29), zVl (a0 31) (kM 31) 14 (jM 31), zVl (a0 32) (kM 32) 14 (jM 32), zVi (a0 35) (kM 35) 14 (fM 35), zVi (a0 36) (kM 36) 14 (fM 36), zVi (a0 37) (kM 37) 14 (fM 37), zVi (a0 39) (kM 39) 14 (fM 39), zVl (a0 40) (kM 40) 14 (jM 40), zVi (a0 43) (kM 43) 14 (fM 43), zVi (a0 46) (kM 46) 14 (fM 46), zVi (a0 47) (kM 47) 14 (fM 47), zVi (a0 48) (kM 48) 64 (fM 48), zVi (a0 49) (kM 49) 64 (fM 49), zVi (a0 54) (kM 54) 1024 (fM 54), zVl (a0 55) (kM 55) 1024 (jM 55), zVi (a0 56) (kM 56) 1024 (fM 56), zVi (a0 60) (kM 60) 14 (fM 60), zVl (a0 61) (kM 61) 14 (jM 61), zVl (a0 62) (kM 62) 14 (jM 62), zVl (a0 63) (kM 63) 14 (jM 63), zVl (a0 65) (kM 65) 14 (jM 65), zVl (a0 66) (kM 66) 14 (jM 66)]
noncomputable def zTyM (kM : Nat → Nat) : List (ClassId × FieldType) := [((kM 0), .int), ((kM 2), .int), ((kM 10), .int), ((kM 12), .int), ((kM 13), .int), ((kM 14), .int), ((kM 15), .int), ((kM 16), .int), ((kM 17), .int), ((kM 18), .int), ((kM 19), .int), ((kM 20), .int), ((kM 21), .int), ((kM 22), .long), ((kM 23), .long), ((kM 24), .int), ((kM 25), .int), ((kM 26), .int), ((kM 27), .int), ((kM 29), .int), ((kM 31), .long), ((kM 32), .long), ((kM 35), .boolean), ((kM 36), .int), ((kM 37), .int), ((kM 39), .int), ((kM 40), .long), ((kM 43), .int), ((kM 46), .boolean), ((kM 47), .int), ((kM 48), .int), ((kM 49), .int), ((kM 54), .int), ((kM 55), .long), ((kM 56), .int), ((kM 60), .int), ((kM 61), .long), ((kM 62), .long), ((kM 63), .long), ((kM 65), .long), ((kM 66), .long)]
/-! what steps and choices of the reference are between two calls -/
noncomputable def zMI (nu fo st ha tr so : Nat → Int32) : Prop := (nu (0 : Int32).toNatClampNeg ≤ 0 ∧ fo (0 : Int32).toNatClampNeg ≤ 0 ∧ (∀ i : Nat, ha i = 0) ∧ (∀ i : Nat, tr i = 0) ∧ (∀ i : Nat, so i = 0)) ∨ (1 ≤ fo (0 : Int32).toNatClampNeg ∧ (∀ x : Int32, 0 ≤ x → x < fo (0 : Int32).toNatClampNeg → 1 ≤ st x.toNatClampNeg) ∧ (∀ i : Nat, 1 ≤ st (ha i).toNatClampNeg) ∧ (∀ i : Nat, 1 ≤ st (tr i).toNatClampNeg) ∧ (∀ i : Nat, 1 ≤ st (so i).toNatClampNeg))
theorem zMI_0 {nu fo st ha tr so : Nat → Int32} (h1 : nu (0 : Int32).toNatClampNeg ≤ 0) (h2 : fo (0 : Int32).toNatClampNeg ≤ 0) (h3 : ∀ i : Nat, ha i = 0) (h4 : ∀ i : Nat, tr i = 0) (h5 : ∀ i : Nat, so i = 0) : zMI nu fo st ha tr so := Or.inl ⟨h1, h2, h3, h4, h5⟩
theorem zMI_ht {nu fo st ha tr so : Nat → Int32} (h : zMI nu fo st ha tr so) : nu (0 : Int32).toNatClampNeg ≤ 0 ∨ (∀ i : Nat, 1 ≤ st (ha i).toNatClampNeg) ∧ (∀ i : Nat, 1 ≤ st (tr i).toNatClampNeg) := h.elim (fun q => Or.inl q.1) (fun q => Or.inr ⟨q.2.2.1, q.2.2.2.1⟩)
theorem zMI_fht {nu fo st ha tr so : Nat → Int32} (h : zMI nu fo st ha tr so) : nu (0 : Int32).toNatClampNeg ≤ 0 ∨ 1 ≤ fo (0 : Int32).toNatClampNeg ∧ (∀ x : Int32, 0 ≤ x → x < fo (0 : Int32).toNatClampNeg → 1 ≤ st x.toNatClampNeg) ∧ (∀ i : Nat, 1 ≤ st (ha i).toNatClampNeg) ∧ (∀ i : Nat, 1 ≤ st (tr i).toNatClampNeg) := h.elim (fun q => Or.inl q.1) (fun q => Or.inr ⟨q.1, q.2.1, q.2.2.1, q.2.2.2.1⟩)
theorem zMI_ft {nu fo st ha tr so : Nat → Int32} (h : zMI nu fo st ha tr so) : nu (0 : Int32).toNatClampNeg ≤ 0 ∨ 1 ≤ fo (0 : Int32).toNatClampNeg ∧ (∀ x : Int32, 0 ≤ x → x < fo (0 : Int32).toNatClampNeg → 1 ≤ st x.toNatClampNeg) ∧ (∀ i : Nat, 1 ≤ st (tr i).toNatClampNeg) := h.elim (fun q => Or.inl q.1) (fun q => Or.inr ⟨q.1, q.2.1, q.2.2.2.1⟩)
theorem zMI_fhts {nu fo st ha tr so : Nat → Int32} (h : zMI nu fo st ha tr so) : nu (0 : Int32).toNatClampNeg ≤ 0 ∨ 1 ≤ fo (0 : Int32).toNatClampNeg ∧ (∀ x : Int32, 0 ≤ x → x < fo (0 : Int32).toNatClampNeg → 1 ≤ st x.toNatClampNeg) ∧ (∀ i : Nat, 1 ≤ st (ha i).toNatClampNeg) ∧ (∀ i : Nat, 1 ≤ st (tr i).toNatClampNeg) ∧ (∀ i : Nat, 1 ≤ st (so i).toNatClampNeg) := h.elim (fun q => Or.inl q.1) (fun q => Or.inr q)
noncomputable def zE (fo ha tr so x : Nat → Int32) : Prop := ∀ i : Nat, x i = ha i ∨ x i = tr i ∨ x i = so i ∨ 0 ≤ x i ∧ x i < fo (0 : Int32).toNatClampNeg
theorem zE_H {fo ha tr so : Nat → Int32} : zE fo ha tr so ha := fun _ => Or.inl rfl
theorem zE_T {fo ha tr so : Nat → Int32} : zE fo ha tr so tr := fun _ => Or.inr (Or.inl rfl)
theorem zE_S {fo ha tr so : Nat → Int32} : zE fo ha tr so so := fun _ => Or.inr (Or.inr (Or.inl rfl))
theorem zE_ht {fo ha tr so x : Nat → Int32} (h : ∀ i : Nat, x i = ha i ∨ x i = tr i) : zE fo ha tr so x := fun i => (h i).elim Or.inl (fun q => Or.inr (Or.inl q))
theorem zE_hf {fo ha tr so x : Nat → Int32} (h : ∀ i : Nat, x i = ha i ∨ 0 ≤ x i ∧ x i < fo (0 : Int32).toNatClampNeg) : zE fo ha tr so x := fun i => (h i).elim Or.inl (fun q => Or.inr (Or.inr (Or.inr q)))
theorem zE_tf {fo ha tr so x : Nat → Int32} (h : ∀ i : Nat, x i = tr i ∨ 0 ≤ x i ∧ x i < fo (0 : Int32).toNatClampNeg) : zE fo ha tr so x := fun i => (h i).elim (fun q => Or.inr (Or.inl q)) (fun q => Or.inr (Or.inr (Or.inr q)))
theorem zE_htf {fo ha tr so x : Nat → Int32} (h : ∀ i : Nat, x i = ha i ∨ x i = tr i ∨ 0 ≤ x i ∧ x i < fo (0 : Int32).toNatClampNeg) : zE fo ha tr so x := fun i => (h i).elim Or.inl (fun q => q.elim (fun q => Or.inr (Or.inl q)) (fun q => Or.inr (Or.inr (Or.inr q))))
theorem zE_htsf {fo ha tr so x : Nat → Int32} (h : ∀ i : Nat, x i = ha i ∨ x i = tr i ∨ x i = so i ∨ 0 ≤ x i ∧ x i < fo (0 : Int32).toNatClampNeg) : zE fo ha tr so x := h
theorem zMI_up {nu fo st ha tr so ha' tr' so' : Nat → Int32} (h : zMI nu fo st ha tr so) (h1 : zE fo ha tr so ha') (h2 : zE fo ha tr so tr') (h3 : zE fo ha tr so so') : zMI nu fo st ha' tr' so' := by
  rcases h with ⟨a1, a2, a3, a4, a5⟩ | ⟨a1, a2, a3, a4, a5⟩
  · have key : ∀ x : Nat → Int32, zE fo ha tr so x → ∀ i : Nat, x i = 0 := by
      intro x hx i
      rcases hx i with q | q | q | q
      · exact q.trans (a3 i)
      · exact q.trans (a4 i)
      · exact q.trans (a5 i)
      · obtain ⟨q1, q2⟩ := q
        lia
    exact Or.inl ⟨a1, a2, key _ h1, key _ h2, key _ h3⟩
  · have key : ∀ x : Nat → Int32, zE fo ha tr so x → ∀ i : Nat, 1 ≤ st (x i).toNatClampNeg := by
      intro x hx i
      rcases hx i with q | q | q | q
      · rw [q]; exact a3 i
      · rw [q]; exact a4 i
      · rw [q]; exact a5 i
      · exact a2 _ q.1 q.2
    exact Or.inr ⟨a1, a2, key _ h1, key _ h2, key _ h3⟩
theorem zMI_task {nu fo st ha tr so nu' fo' st' ha' : Nat → Int32} (r0 : Int32) (h : zMI nu fo st ha tr so) (hfo : ∀ i : Nat, 0 ≤ fo i ∧ fo i ≤ 4) (hha : ∀ i : Nat, 0 ≤ ha i ∧ ha i ≤ 3) (htr : ∀ i : Nat, 0 ≤ tr i ∧ tr i ≤ 3) (hso : ∀ i : Nat, 0 ≤ so i ∧ so i ≤ 3)
    (h1 : ∀ x : Int32, 0 ≤ x → x < 4 → 1 ≤ st x.toNatClampNeg → 1 ≤ st' x.toNatClampNeg)
    (h2 : r0 = (-1) → nu' (0 : Int32).toNatClampNeg = nu (0 : Int32).toNatClampNeg ∧ fo' (0 : Int32).toNatClampNeg = fo (0 : Int32).toNatClampNeg ∧ (∀ x : Int32, 0 ≤ x → x < 4 → st' x.toNatClampNeg = st x.toNatClampNeg) ∧ (∀ i : Nat, ha' i = ha i))
    (h3 : ¬ r0 = (-1) → 1 ≤ fo' (0 : Int32).toNatClampNeg ∧ (∀ x : Int32, 0 ≤ x → x < fo' (0 : Int32).toNatClampNeg → 1 ≤ st' x.toNatClampNeg) ∧ (∀ i : Nat, ha' i = ha i ∨ 1 ≤ st' (ha' i).toNatClampNeg)) : zMI nu' fo' st' ha' tr so := by
  have l4 : ∀ x : Int32, x ≤ 3 → x < 4 := fun x hx => by lia
  have up : ∀ x : Int32, 0 ≤ x ∧ x ≤ 3 → 1 ≤ st x.toNatClampNeg → 1 ≤ st' x.toNatClampNeg := fun x hx hs => h1 x hx.1 (l4 x hx.2) hs
  by_cases c : r0 = (-1)
  · obtain ⟨e1, e2, e3, e4⟩ := h2 c
    rcases h with ⟨a1, a0, a2, a3, a4⟩ | ⟨a1, a2, a3, a4, a5⟩
    · exact Or.inl ⟨by rw [e1]; exact a1, by rw [e2]; exact a0, fun i => (e4 i).trans (a2 i), a3, a4⟩
    · refine Or.inr ⟨by rw [e2]; exact a1, fun x hx hx2 => ?_, fun i => ?_, fun i => up _ (htr i) (a4 i), fun i => up _ (hso i) (a5 i)⟩
      · rw [e2] at hx2
        have hf := hfo (0 : Int32).toNatClampNeg
        exact h1 x hx (by lia) (a2 x hx hx2)
      · rw [e4]
        exact up _ (hha i) (a3 i)
  · obtain ⟨e1, e2, e3⟩ := h3 c
    have z : 1 ≤ st' (0 : Int32).toNatClampNeg := e2 0 (by decide) (by lia)
    rcases h with ⟨a1, a0, a2, a3, a4⟩ | ⟨a1, a2, a3, a4, a5⟩
    · exact Or.inr ⟨e1, e2, fun i => (e3 i).elim (fun q => by rw [q, a2]; exact z) id, fun i => by rw [a3]; exact z, fun i => by rw [a4]; exact z⟩
    · exact Or.inr ⟨e1, e2, fun i => (e3 i).elim (fun q => by rw [q]; exact up _ (hha i) (a3 i)) id, fun i => up _ (htr i) (a4 i), fun i => up _ (hso i) (a5 i)⟩
theorem zle4 {a b c d e : Int32} (h1 : a ≤ b) (h2 : b ≤ c) (h3 : c ≤ d) (h4 : d ≤ e) : a ≤ e := Int32.le_trans (Int32.le_trans h1 h2) (Int32.le_trans h3 h4)

noncomputable def zInvX (I : Nat → Int32) (F : Nat → Nat → Int32) (N : Nat → Nat) : Prop := (0 ≤ (I 0) ∧ (I 0) ≤ 1200) ∧ (0 ≤ (I 5) ∧ (I 5) ≤ 1200) ∧ (0 ≤ (I 6) ∧ (I 6) ≤ 1200) ∧ (0 ≤ (I 7) ∧ (I 7) ≤ 5) ∧ (0 ≤ (I 8) ∧ (I 8) ≤ 1200) ∧ ((-1) ≤ (I 10) ∧ (I 10) ≤ 12) ∧ (0 ≤ (I 11) ∧ (I 11) ≤ 4) ∧ (0 ≤ (I 13) ∧ (I 13) ≤ 14) ∧ (0 ≤ (I 15) ∧ (I 15) ≤ 14) ∧ (0 ≤ (I 16) ∧ (I 16) ≤ 14) ∧ (0 ≤ (I 17) ∧ (I 17) ≤ 1) ∧ (0 ≤ (I 18) ∧ (I 18) ≤ 4) ∧ (0 ≤ (I 20) ∧ (I 20) ≤ 14) ∧ (0 ≤ (I 22) ∧ (I 22) ≤ 14) ∧ (0 ≤ (I 23) ∧ (I 23) ≤ 14) ∧ (0 ≤ (I 24) ∧ (I 24) ≤ 1) ∧ (0 ≤ (I 29) ∧ (I 29) ≤ 1) ∧ (0 ≤ (I 30) ∧ (I 30) ≤ 14) ∧ (0 ≤ (I 31) ∧ (I 31) ≤ 1024) ∧ (0 ≤ (I 35) ∧ (I 35) ≤ 1024) ∧ (0 ≤ (I 38) ∧ (I 38) ≤ 1) ∧ (0 ≤ (I 39) ∧ (I 39) ≤ 1) ∧ (0 ≤ (I 40) ∧ (I 40) ≤ 28) ∧ ((-1) ≤ (I 45) ∧ (I 45) ≤ 13) ∧ ((-1) ≤ (I 46) ∧ (I 46) ≤ 3) ∧ ((∀ i : Nat, 0 ≤ (F 15) i ∧ (F 15) i ≤ 13)) ∧ ((∀ i : Nat, 0 ≤ (F 18) i ∧ (F 18) i ≤ 1)) ∧ ((∀ i : Nat, 0 ≤ (F 31) i ∧ (F 31) i ≤ 13)) ∧ ((∀ i : Nat, 0 ≤ (F 34) i ∧ (F 34) i ≤ 1)) ∧ ((∀ i : Nat, 0 ≤ (F 37) i ∧ (F 37) i ≤ 1)) ∧ ((N 0) ≤ 1024) ∧ (0 ≤ Int32.ofNat (N 0) ∧ Int32.ofNat (N 0) ≤ 1024) ∧ ((N 1) ≤ 14336) ∧ (0 ≤ Int32.ofNat (N 1) ∧ Int32.ofNat (N 1) ≤ 14336) ∧ ((N 2) ≤ 1024) ∧ (0 ≤ Int32.ofNat (N 2) ∧ Int32.ofNat (N 2) ≤ 1024) ∧ ((N 3) ≤ 1024) ∧ (0 ≤ Int32.ofNat (N 3) ∧ Int32.ofNat (N 3) ≤ 1024) ∧ ((N 4) ≤ 1024) ∧ (0 ≤ Int32.ofNat (N 4) ∧ Int32.ofNat (N 4) ≤ 1024) ∧ ((∀ i : Nat, 0 ≤ (F 45) i ∧ (F 45) i ≤ 1)) ∧ ((∀ i : Nat, 0 ≤ (F 46) i ∧ (F 46) i ≤ 13)) ∧ ((∀ i : Nat, 0 ≤ (F 47) i ∧ (F 47) i ≤ 14)) ∧ ((∀ i : Nat, 0 ≤ (F 48) i ∧ (F 48) i ≤ 14)) ∧ ((∀ i : Nat, 0 ≤ (F 50) i ∧ (F 50) i ≤ 1)) ∧ ((I 35) ≤ (Int32.ofNat (N 2))) ∧ ((I 35) ≤ (Int32.ofNat (N 3))) ∧ ((I 35) ≤ (Int32.ofNat (N 4))) ∧ ((I 31) ≤ (Int32.ofNat (N 0))) ∧ ((Int32.ofNat (N 0)) ≤ (Int32.ofNat (N 2))) ∧ ((Int32.ofNat (N 0)) ≤ (Int32.ofNat (N 3))) ∧ ((Int32.ofNat (N 0)) ≤ (Int32.ofNat (N 4))) ∧ ((Int32.ofNat (N 2)) ≤ (Int32.ofNat (N 0))) ∧ ((Int32.ofNat (N 3)) ≤ (Int32.ofNat (N 0))) ∧ ((Int32.ofNat (N 4)) ≤ (Int32.ofNat (N 0))) ∧ ((∀ w : Nat, w < 13 → (F 2) w = zOwT w))
noncomputable def zInvM (I : Nat → Int32) (F : Nat → Nat → Int32) (J : Nat → Nat → Int64) (N : Nat → Nat) (b0 : Nat → Int32) (c0 : Nat → Int64) (fM : Nat → Nat → Int32) (jM : Nat → Nat → Int64) : Prop := (0 ≤ (b0 1) ∧ (b0 1) ≤ 1200) ∧ (0 ≤ (b0 5) ∧ (b0 5) ≤ 1200) ∧ (0 ≤ (b0 6) ∧ (b0 6) ≤ 1200) ∧ (0 ≤ (b0 7) ∧ (b0 7) ≤ 1200) ∧ (0 ≤ (b0 8) ∧ (b0 8) ≤ 4) ∧ (0 ≤ (b0 11) ∧ (b0 11) ≤ 1) ∧ (0 ≤ (b0 30) ∧ (b0 30) ≤ 14) ∧ (0 ≤ (b0 38) ∧ (b0 38) ≤ 1) ∧ ((-1) ≤ (b0 52) ∧ (b0 52) ≤ 13) ∧ ((-1) ≤ (b0 53) ∧ (b0 53) ≤ 3) ∧ (0 ≤ (b0 57) ∧ (b0 57) ≤ 1024) ∧ ((∀ i : Nat, 0 ≤ (fM 0) i ∧ (fM 0) i ≤ 255)) ∧ ((∀ i : Nat, 0 ≤ (fM 12) i ∧ (fM 12) i ≤ 4)) ∧ ((∀ i : Nat, 0 ≤ (fM 17) i ∧ (fM 17) i ≤ 14)) ∧ ((∀ i : Nat, (-1) ≤ (fM 20) i ∧ (fM 20) i ≤ 13)) ∧ ((∀ i : Nat, (-1) ≤ (fM 21) i ∧ (fM 21) i ≤ 13)) ∧ ((∀ i : Nat, (-1) ≤ (fM 25) i ∧ (fM 25) i ≤ 3)) ∧ ((∀ i : Nat, 0 ≤ (fM 27) i ∧ (fM 27) i ≤ 13)) ∧ ((∀ i : Nat, 0 ≤ (fM 29) i ∧ (fM 29) i ≤ 13)) ∧ ((∀ i : Nat, 0 ≤ (fM 35) i ∧ (fM 35) i ≤ 1)) ∧ ((∀ i : Nat, 0 ≤ (fM 37) i ∧ (fM 37) i ≤ 3)) ∧ ((∀ i : Nat, 0 ≤ (fM 39) i ∧ (fM 39) i ≤ 3)) ∧ ((∀ i : Nat, 0 ≤ (fM 43) i ∧ (fM 43) i ≤ 3)) ∧ ((∀ i : Nat, 0 ≤ (fM 46) i ∧ (fM 46) i ≤ 1)) ∧ ((∀ i : Nat, 0 ≤ (fM 47) i ∧ (fM 47) i ≤ 13)) ∧ ((∀ k : Nat, k < 71 → (fM 10) k = zTab k)) ∧ ((I 0) = (b0 1)) ∧ (zTp (F 0) (fM 0)) ∧ ((I 3) = (b0 3) ∧ (I 4) = (b0 4)) ∧ (zTN (I 11) (I 12) (I 13) (I 14) (F 3) (F 7) (F 4) (F 5) (F 6) (F 10) (F 13) (F 14) (F 8) (F 9) (F 12) (F 11) (fM 12) (fM 17) (fM 13) (fM 18) (fM 14) (fM 15) (fM 16) (fM 26) (fM 24) (fM 19) (fM 20) (fM 21) (fM 25) (fM 27) (jM 22) (jM 23)) ∧ (zGp (I 13) (I 15) (I 16) (I 17) (F 15) (F 16) (F 17) (F 9) (fM 27)) ∧ (zRN (I 13) (-1) 0 (F 8) (F 13) (F 14) (F 18) (J 0) (J 1)) ∧ ((I 49) = (b0 58) ∧ (I 50) = (b0 59)) ∧ (zHN (I 13) (I 11) (I 17) (b0 38) (F 15) (F 16) (F 35) (fM 37)) ∧ ((F 1) = (fM 2)) ∧ ((I 1) = (b0 64) ∧ 0 ≤ (I 1)) ∧ (zFC (I 11) (I 12) (I 13) (I 15) (I 16) (I 17) (F 15) (F 16) (F 4) (F 5) (F 6) (F 10) (F 13) (F 14) (F 8) (J 0) (J 1) (I 29) (I 30) (I 31) (I 32) (I 33) (F 39) (N 0) (F 40) (N 1)) ∧ (zLC (I 11) (I 12) (I 13) (I 15) (I 17) (F 15) (F 16) (F 4) (F 5) (F 6) (F 10) (F 13) (F 14) (F 8) (J 0) (J 1) (I 38) (I 39) (I 41) (I 42) (F 49)) ∧ (zMI (fM 17) (fM 12) (fM 14) (fM 37) (fM 39) (fM 43)) ∧ ((∀ x : Int32, 0 ≤ x → x < 4 → 1 ≤ (fM 14) x.toNatClampNeg → 1 ≤ (fM 14) (4 + x).toNatClampNeg))
/-! what the room still holds: a search makes rows only once between two tasks -/
noncomputable def zrd (x : Int32) : Nat := if x = 0 then 0 else 1
theorem zrd_le (x : Int32) : zrd x ≤ 1 := by
  unfold zrd
  split <;> omega
noncomputable def zBud (t : Nat) (x : Int32) (cl sl : Nat) : Prop := t ≤ 512 ∧ cl ≤ 132 + 3 * (t + zrd x) ∧ sl ≤ 7300 + 9216 * (t + zrd x)
theorem zc_bound (a b : Int32) (k : Nat) : zc a b k ≤ k := by
  unfold zc
  split
  · split <;> omega
  · omega
theorem zBud_room0 {t : Nat} {x : Int32} {cl sl : Nat} (h : zBud t x cl sl) : cl + 0 ≤ room_1.cells ∧ sl + 0 ≤ room_1.slots := by
  obtain ⟨h0, h1, h2⟩ := h
  have h3 := zrd_le x
  show cl + 0 ≤ 600000 ∧ sl + 0 ≤ 7302250
  omega
theorem zBud_room {t : Nat} {x : Int32} {cl sl : Nat} (h : zBud t x cl sl) : cl + 5 ≤ room_1.cells ∧ sl + 18432 ≤ room_1.slots := by
  obtain ⟨h0, h1, h2⟩ := h
  have h3 := zrd_le x
  show cl + 5 ≤ 600000 ∧ sl + 18432 ≤ 7302250
  omega
theorem zBud_room1 {t : Nat} {x a b : Int32} {cl sl : Nat} (h : zBud t x cl sl) : cl + zc a b 5 + 0 ≤ room_1.cells ∧ sl + zc a b 18432 + 0 ≤ room_1.slots := by
  obtain ⟨h0, h1, h2⟩ := h
  have h3 := zrd_le x
  have h4 := zc_bound a b 5
  have h5 := zc_bound a b 18432
  show cl + zc a b 5 + 0 ≤ 600000 ∧ sl + zc a b 18432 + 0 ≤ 7302250
  omega
theorem zBud_next {t : Nat} {x y : Int32} {cl sl : Nat} (h : zBud t x cl sl) (ht : t ≤ 511) : zBud (t + 1) y cl sl := by
  obtain ⟨h0, h1, h2⟩ := h
  have h3 := zrd_le x
  exact ⟨by omega, by omega, by omega⟩
theorem zBud_dyn {t : Nat} {x y : Int32} {cl sl : Nat} (h : zBud t x cl sl) (ht : t ≤ 511) : zBud (t + 1) y (cl + zc x y 5) (sl + zc x y 18432) := by
  obtain ⟨h0, h1, h2⟩ := h
  have h3 := zrd_le x
  have h5 : zc x y 5 ≤ 3 * (1 + zrd y) - 3 * zrd x ∧ zc x y 18432 ≤ 9216 * (1 + zrd y) - 9216 * zrd x := by
    unfold zc zrd
    by_cases hx : x = 0
    · by_cases hy : y = 1
      · subst hx; subst hy
        decide
      · rw [if_pos hx, if_neg hy, if_pos hx, if_neg hy]
        split <;> omega
    · rw [if_neg hx, if_neg hx, if_neg hx]
      split <;> omega
  exact ⟨by omega, by omega, by omega⟩
theorem zvin {i : Int32} {t L : Nat} (hi : i.toInt = 6 * (t : Int) ∧ 6 * t + 6 ≤ L ∧ L ≤ 3072) (k : Int32) {n : Int} (hk : k.toInt = n) (hn : 0 ≤ n ∧ n < 6) : vp_in (i + k) L := by
  obtain ⟨h1, h2, h3⟩ := hi
  have h4 := zo_add (x := i) (y := k) (z := i + k) rfl h1 hk (by omega)
  exact vp_in_iff.mpr (by rw [h4]; omega)
theorem zvin0 {i : Int32} {t L : Nat} (hi : i.toInt = 6 * (t : Int) ∧ 6 * t + 6 ≤ L ∧ L ≤ 3072) : vp_in i L := by
  obtain ⟨h1, h2, h3⟩ := hi
  exact vp_in_iff.mpr (by rw [h1]; omega)
theorem zhead {i : Int32} {t L : Nat} (hi : i.toInt = 6 * (t : Int)) (ht : t ≤ 512) (hL : L ≤ 3072) (h : ¬ (Int32.ofNat L - 6) < i) : i.toInt = 6 * (t : Int) ∧ 6 * t + 6 ≤ L ∧ L ≤ 3072 := by
  have h6 : (6 : Int32).toInt = 6 := by decide +kernel
  have hLi : (Int32.ofNat L).toInt = (L : Int) := Int32.toInt_ofNat_of_lt (by omega)
  have hs := zo_sub (x := Int32.ofNat L) (y := 6) (z := Int32.ofNat L - 6) rfl hLi h6 (by omega)
  have h1 : ¬ (Int32.ofNat L - 6).toInt < i.toInt := fun q => h (Int32.lt_iff_toInt_lt.mpr q)
  exact ⟨hi, by omega, hL⟩
theorem zstep6 {i v : Int32} {t : Nat} (hi : i.toInt = 6 * (t : Int)) (ht : t ≤ 511) (hv : i + 6 = v) : v.toInt = 6 * ((t + 1 : Nat) : Int) := by
  have h6 : (6 : Int32).toInt = 6 := by decide +kernel
  have := zo_add (x := i) (y := 6) (z := v) hv.symm hi h6 (by omega)
  omega
theorem zeq_seed {p : Int32} {a b : Int32} {f g : Nat → Int32} {o o' : Int32 × Int32 × (Nat → Int32)} (h1 : fn_X11_seed p a f = some o) (h2 : fn_X12_seed p b g = some o') : o.1 = o'.1 := by
  unfold fn_X11_seed at h1
  unfold fn_X12_seed at h2
  by_cases c : 0 ≤ p
  · rw [if_pos c] at h1 h2
    rw [← Option.some.inj h1, ← Option.some.inj h2]
  · rw [if_neg c] at h1 h2
    obtain ⟨a1, e1, h1⟩ := zb_s h1
    obtain ⟨a2, e2, h2⟩ := zb_s h2
    unfold fn_X12_isRefused at e2
    obtain ⟨-, e2⟩ := zg_s e2
    rw [← Option.some.inj h1, ← Option.some.inj h2, ← Option.some.inj e2]
