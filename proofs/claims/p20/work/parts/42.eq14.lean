/-! loops, one alone or two side by side, where the answer is there -/
theorem zl_ip {σ ρ : Type} {B : σ → (σ → Option ρ) → Option ρ} {P : ρ → Prop} (I : σ → Prop) (hB : ∀ (s : σ) (back : σ → Option ρ) (o : ρ), I s → (∀ t o, I t → back t = some o → P o) → B s back = some o → P o) : ∀ (n : Nat) (s : σ) (o : ρ), I s → zl B n s = some o → P o := by
  intro n
  induction n with
  | zero => intro s o _ h; exact (zl_0 h).elim
  | succ n ih => intro s o hI h; exact hB s (zl B n) o hI (fun t o ht hb => ih t o ht hb) (zl_s rfl h)
theorem zl_ip2 {σ τ ρ κ : Type} {B : σ → (σ → Option ρ) → Option ρ} {D : τ → (τ → Option κ) → Option κ} {P : ρ → κ → Prop} (R : σ → τ → Prop) (hB : ∀ (s : σ) (t : τ) (k1 : σ → Option ρ) (k2 : τ → Option κ) (o1 : ρ) (o2 : κ), R s t → (∀ s t o1 o2, R s t → k1 s = some o1 → k2 t = some o2 → P o1 o2) → B s k1 = some o1 → D t k2 = some o2 → P o1 o2) : ∀ (n m : Nat) (s : σ) (t : τ) (o1 : ρ) (o2 : κ), R s t → zl B n s = some o1 → zl D m t = some o2 → P o1 o2 := by
  intro n
  induction n with
  | zero => intro m s t o1 o2 _ h _; exact (zl_0 h).elim
  | succ n ih =>
    intro m s t o1 o2 hR h1 h2
    cases m with
    | zero => exact (zl_0 h2).elim
    | succ m => exact hB s t (zl B n) (zl D m) o1 o2 hR (fun s t o1 o2 hR h1 h2 => ih m s t o1 o2 hR h1 h2) (zl_s rfl h1) (zl_s rfl h2)
/-! counts -/
noncomputable def zct (b : Nat → Bool) : Nat → Int32
  | 0 => 0
  | k + 1 => zct b k + (if b k = true then 1 else 0)
theorem zct_t {b : Nat → Bool} {p : Int32} (h0 : 0 ≤ p) (h1 : p ≤ 1200) (hb : b p.toNatClampNeg = true) : zct b (p + 1).toNatClampNeg = zct b p.toNatClampNeg + 1 := by
  rw [zNx h0 h1]
  show zct b p.toNatClampNeg + (if b p.toNatClampNeg = true then 1 else 0) = _
  rw [if_pos hb]
theorem zct_f {b : Nat → Bool} {p : Int32} (h0 : 0 ≤ p) (h1 : p ≤ 1200) (hb : ¬ b p.toNatClampNeg = true) : zct b (p + 1).toNatClampNeg = zct b p.toNatClampNeg := by
  rw [zNx h0 h1]
  show zct b p.toNatClampNeg + (if b p.toNatClampNeg = true then 1 else 0) = _
  rw [if_neg hb]
  exact Int32.add_zero _
theorem zct_b (b : Nat → Bool) : ∀ k : Nat, k ≤ 1000 → 0 ≤ (zct b k).toInt ∧ (zct b k).toInt ≤ (k : Int) := by
  intro k
  induction k with
  | zero => intro _; show 0 ≤ (0 : Int32).toInt ∧ (0 : Int32).toInt ≤ 0; rw [zi_0]; omega
  | succ k ih =>
    intro hk
    have h := ih (by omega)
    show 0 ≤ (zct b k + (if b k = true then 1 else 0)).toInt ∧ (zct b k + (if b k = true then 1 else 0)).toInt ≤ ((k + 1 : Nat) : Int)
    by_cases c : b k = true
    · rw [if_pos c]
      have := zo_add (x := zct b k) (y := 1) (z := zct b k + 1) rfl rfl zi_1' (by omega)
      omega
    · rw [if_neg c]
      have := zo_add (x := zct b k) (y := 0) (z := zct b k + 0) rfl rfl zi_0 (by omega)
      omega
theorem zct_m (b : Nat → Bool) (k : Nat) : ∀ j : Nat, k + j ≤ 1000 → (zct b k).toInt ≤ (zct b (k + j)).toInt := by
  intro j
  induction j with
  | zero => intro _; exact Int.le_refl _
  | succ j ih =>
    intro hk
    have h := ih (by omega)
    have hb := zct_b b (k + j) (by omega)
    have e : zct b (k + (j + 1)) = zct b (k + j) + (if b (k + j) = true then 1 else 0) := rfl
    by_cases c : b (k + j) = true
    · rw [if_pos c] at e
      have := zo_add (x := zct b (k + j)) (y := 1) e rfl zi_1' (by omega)
      omega
    · rw [if_neg c] at e
      have := zo_add (x := zct b (k + j)) (y := 0) e rfl zi_0 (by omega)
      omega
theorem zct_c {a b : Nat → Bool} : ∀ k : Nat, (∀ j : Nat, j < k → a j = b j) → zct a k = zct b k := by
  intro k
  induction k with
  | zero => intro _; rfl
  | succ k ih =>
    intro h
    show zct a k + (if a k = true then 1 else 0) = zct b k + (if b k = true then 1 else 0)
    rw [ih (fun j hj => h j (by omega)), h k (by omega)]
theorem zcl' {p c : Int32} (h0 : 0 ≤ p) (h1 : p < c) : p.toNatClampNeg < c.toNatClampNeg := by
  have a := Int32.le_iff_toInt_le.mp h0
  have b := Int32.lt_iff_toInt_lt.mp h1
  rw [zi_0] at a
  show p.toInt.toNat < c.toInt.toNat
  omega
theorem zcle {p c : Int32} (h0 : 0 ≤ p) (h1 : p ≤ c) : p.toNatClampNeg ≤ c.toNatClampNeg := by
  have a := Int32.le_iff_toInt_le.mp h0
  have b := Int32.le_iff_toInt_le.mp h1
  rw [zi_0] at a
  show p.toInt.toNat ≤ c.toInt.toNat
  omega
/-- each place below a count is one of 32 bits -/
theorem zof {k : Nat} {c : Int32} (h0 : 0 ≤ c) (h : k < c.toNatClampNeg) : 0 ≤ Int32.ofNat k ∧ Int32.ofNat k < c ∧ (Int32.ofNat k).toNatClampNeg = k := by
  have hc := (zofn c h0).2
  have hl := Int32.toInt_lt c
  have e : (Int32.ofNat k).toInt = (k : Int) := Int32.toInt_ofNat_of_lt (by omega)
  refine ⟨Int32.le_iff_toInt_le.mpr (by rw [zi_0, e]; omega), Int32.lt_iff_toInt_lt.mpr (by rw [e]; omega), ?_⟩
  show (Int32.ofNat k).toInt.toNat = k
  omega
theorem zct_b32 {b : Nat → Bool} {p : Int32} (h0 : 0 ≤ p) (h1 : p ≤ 14) : 0 ≤ zct b p.toNatClampNeg ∧ zct b p.toNatClampNeg ≤ p := by
  have hp := (zofn p h0).2
  have h2 := Int32.le_iff_toInt_le.mp h1
  rw [show (14 : Int32).toInt = 14 by decide +kernel] at h2
  have h := zct_b b p.toNatClampNeg (by omega)
  exact ⟨Int32.le_iff_toInt_le.mpr (by rw [zi_0]; exact h.1), Int32.le_iff_toInt_le.mpr (by omega)⟩
theorem zct_m32 {b : Nat → Bool} {p q : Int32} (h0 : 0 ≤ p) (h1 : p ≤ q) (h2 : q ≤ 14) : zct b p.toNatClampNeg ≤ zct b q.toNatClampNeg := by
  have hp := (zofn p h0).2
  have hq := (zofn q (by grind)).2
  have k1 := Int32.le_iff_toInt_le.mp h1
  have k2 := Int32.le_iff_toInt_le.mp h2
  rw [show (14 : Int32).toInt = 14 by decide +kernel] at k2
  have h := zct_m b p.toNatClampNeg (q.toNatClampNeg - p.toNatClampNeg) (by omega)
  rw [show p.toNatClampNeg + (q.toNatClampNeg - p.toNatClampNeg) = q.toNatClampNeg by omega] at h
  exact Int32.le_iff_toInt_le.mpr h
/-! a TASK that is at hand -/
noncomputable def zF0 (cF : Int32) (nF stp mst prc mNF mS mM mC : Nat → Int32) : Prop := ∀ i : Int32, 0 ≤ i → i < cF → zNm (nF i.toNatClampNeg) (mNF i.toNatClampNeg) ∧ stp i.toNatClampNeg = mS i.toNatClampNeg ∧ mst i.toNatClampNeg = mM i.toNatClampNeg ∧ prc i.toNatClampNeg = mC i.toNatClampNeg ∧ (1 ≤ stp i.toNatClampNeg ∧ stp i.toNatClampNeg ≤ 1000000) ∧ (1 ≤ mst i.toNatClampNeg ∧ mst i.toNatClampNeg ≤ 1000000000) ∧ (0 ≤ prc i.toNatClampNeg ∧ prc i.toNatClampNeg ≤ 999)
noncomputable def zN01 (i cF : Int32) (nN op fx al made amt lets mNN mO m1 m2 mX mW : Nat → Int32) (mA mB : Nat → Int64) : Prop :=
  zNm (nN i.toNatClampNeg) (mNN i.toNatClampNeg) ∧ op i.toNatClampNeg = mO i.toNatClampNeg ∧ fx i.toNatClampNeg = mX i.toNatClampNeg ∧ al i.toNatClampNeg = mW i.toNatClampNeg
  ∧ made (2 * i + 0).toNatClampNeg = m1 i.toNatClampNeg ∧ made (2 * i + 1).toNatClampNeg = m2 i.toNatClampNeg ∧ mA i.toNatClampNeg = (amt (2 * i + 0).toNatClampNeg).toInt64 ∧ mB i.toNatClampNeg = (amt (2 * i + 1).toNatClampNeg).toInt64
  ∧ (0 ≤ op i.toNatClampNeg ∧ op i.toNatClampNeg ≤ 5) ∧ ((-1) ≤ fx i.toNatClampNeg ∧ fx i.toNatClampNeg < cF) ∧ ((-1) ≤ al i.toNatClampNeg ∧ al i.toNatClampNeg ≤ 1000000)
  ∧ ((-1) ≤ made (2 * i + 0).toNatClampNeg ∧ made (2 * i + 0).toNatClampNeg < i) ∧ ((-1) ≤ made (2 * i + 1).toNatClampNeg ∧ made (2 * i + 1).toNatClampNeg < i)
  ∧ ((-10000000) ≤ amt (2 * i + 0).toNatClampNeg ∧ amt (2 * i + 0).toNatClampNeg ≤ 10000000) ∧ ((-10000000) ≤ amt (2 * i + 1).toNatClampNeg ∧ amt (2 * i + 1).toNatClampNeg ≤ 10000000)
  ∧ (op i.toNatClampNeg = 0 → made (2 * i + 0).toNatClampNeg = (-1) ∧ made (2 * i + 1).toNatClampNeg = (-1) ∧ amt (2 * i + 0).toNatClampNeg ≤ amt (2 * i + 1).toNatClampNeg)
  ∧ lets i.toNatClampNeg = zDeep (op i.toNatClampNeg) i made lets
noncomputable def zN0 (cN cF : Int32) (nN op fx al made amt lets mNN mO m1 m2 mX mW : Nat → Int32) (mA mB : Nat → Int64) : Prop := ∀ i : Int32, 0 ≤ i → i < cN → zN01 i cF nN op fx al made amt lets mNN mO m1 m2 mX mW mA mB
noncomputable def zG0 (cN : Int32) (jn mG : Nat → Int32) : Prop := (∀ i : Int32, 0 ≤ i → i < cN → 0 ≤ mG i.toNatClampNeg ∧ mG i.toNatClampNeg ≤ i ∧ mG (mG i.toNatClampNeg).toNatClampNeg = mG i.toNatClampNeg) ∧ (∀ i j : Int32, 0 ≤ i → i < cN → 0 ≤ j → j < cN → (jn i.toNatClampNeg = jn j.toNatClampNeg ↔ mG i.toNatClampNeg = mG j.toNatClampNeg))
noncomputable def zTN (cF cc cN inp : Int32) (nF nN stp mst prc al made amt op fx jn lets : Nat → Int32) (mF mN mNF mNN mS mM mC mW mCst mO m1 m2 mX mG : Nat → Int32) (mA mB : Nat → Int64) : Prop := (mF 0 = cF ∧ 0 ≤ cF ∧ cF ≤ 4) ∧ (mN 0 = cN ∧ 0 ≤ cN ∧ cN ≤ 14) ∧ (mCst 0 = cc ∧ 0 ≤ cc ∧ cc ≤ 999) ∧ (cN = 0 → cc = 0) ∧ (0 < cN → 0 < cF) ∧ inp = zCnt op cN.toNatClampNeg ∧ zF0 cF nF stp mst prc mNF mS mM mC ∧ zN0 cN cF nN op fx al made amt lets mNN mO m1 m2 mX mW mA mB ∧ zG0 cN jn mG
/-! the TASK that was read comes to be the one at hand -/
noncomputable def zCq (d k : Int32) (S T : Nat → Int32) : Prop := (∀ i : Int32, 0 ≤ i → i < k → T i.toNatClampNeg = S (d + i).toNatClampNeg) ∧ (∀ i : Int32, d ≤ i → T i.toNatClampNeg = S i.toNatClampNeg)
noncomputable def zCqL (d k : Int32) (S T : Nat → Int64) : Prop := (∀ i : Int32, 0 ≤ i → i < k → T i.toNatClampNeg = S (d + i).toNatClampNeg) ∧ (∀ i : Int32, d ≤ i → T i.toNatClampNeg = S i.toNatClampNeg)
theorem zCq_0 {d : Int32} {S : Nat → Int32} : zCq d 0 S S := ⟨fun i i1 i2 => absurd i2 (by grind), fun _ _ => rfl⟩
theorem zCqL_0 {d : Int32} {S : Nat → Int64} : zCqL d 0 S S := ⟨fun i i1 i2 => absurd i2 (by grind), fun _ _ => rfl⟩
theorem zCq_s {d k : Int32} {S T : Nat → Int32} (hd : 0 ≤ d ∧ d ≤ 14) (hk : 0 ≤ k ∧ k < d) (h : zCq d k S T) : zCq d (k + 1) S (upd T k.toNatClampNeg (T (d + k).toNatClampNeg)) := by
  refine ⟨fun i i1 i2 => ?_, fun i i1 => ?_⟩
  · rw [zup hk.1 i1]
    by_cases q : i = k
    · rw [if_pos q, q]; exact h.2 (d + k) (by grind)
    · rw [if_neg q]; exact h.1 i i1 (by grind)
  · rw [zup hk.1 (by grind), if_neg (by grind)]; exact h.2 i i1
theorem zCqL_s {d k : Int32} {S T : Nat → Int64} (hd : 0 ≤ d ∧ d ≤ 14) (hk : 0 ≤ k ∧ k < d) (h : zCqL d k S T) : zCqL d (k + 1) S (vp_updL T k.toNatClampNeg (T (d + k).toNatClampNeg)) := by
  refine ⟨fun i i1 i2 => ?_, fun i i1 => ?_⟩
  · rw [zupL hk.1 i1]
    by_cases q : i = k
    · rw [if_pos q, q]; exact h.2 (d + k) (by grind)
    · rw [if_neg q]; exact h.1 i i1 (by grind)
  · rw [zupL hk.1 (by grind), if_neg (by grind)]; exact h.2 i i1
noncomputable def zCpP (mF mN mCst mNF mNN mS mM mC mW mO m1 m2 mX mG : Nat → Int32) (mA mB : Nat → Int64) (x : (Nat → Int32) × (Nat → Int32) × (Nat → Int32) × (Nat → Int32) × (Nat → Int32) × (Nat → Int32) × (Nat → Int32) × (Nat → Int32) × (Nat → Int32) × (Nat → Int32) × (Nat → Int32) × (Nat → Int64) × (Nat → Int64) × (Nat → Int32) × (Nat → Int32) × (Nat → Int32)) : Prop := x.1 0 = mF 1 ∧ x.2.1 0 = mN 1 ∧ x.2.2.1 0 = mCst 1 ∧ zCq 4 4 mNF x.2.2.2.1 ∧ zCq 4 4 mS x.2.2.2.2.1 ∧ zCq 4 4 mM x.2.2.2.2.2.1 ∧ zCq 4 4 mC x.2.2.2.2.2.2.1 ∧ zCq 14 14 mNN x.2.2.2.2.2.2.2.1 ∧ zCq 14 14 mO x.2.2.2.2.2.2.2.2.1 ∧ zCq 14 14 m1 x.2.2.2.2.2.2.2.2.2.1 ∧ zCq 14 14 m2 x.2.2.2.2.2.2.2.2.2.2.1 ∧ zCqL 14 14 mA x.2.2.2.2.2.2.2.2.2.2.2.1 ∧ zCqL 14 14 mB x.2.2.2.2.2.2.2.2.2.2.2.2.1 ∧ zCq 14 14 mX x.2.2.2.2.2.2.2.2.2.2.2.2.2.1 ∧ zCq 14 14 mW x.2.2.2.2.2.2.2.2.2.2.2.2.2.2.1 ∧ zCq 14 14 mG x.2.2.2.2.2.2.2.2.2.2.2.2.2.2.2
set_option maxRecDepth 100000 in
set_option maxHeartbeats 4000000 in
theorem zCopy {mF mN mCst mNF mNN mS mM mC mW mO m1 m2 mX mG : Nat → Int32} {mA mB : Nat → Int64} {x : (Nat → Int32) × (Nat → Int32) × (Nat → Int32) × (Nat → Int32) × (Nat → Int32) × (Nat → Int32) × (Nat → Int32) × (Nat → Int32) × (Nat → Int32) × (Nat → Int32) × (Nat → Int32) × (Nat → Int64) × (Nat → Int64) × (Nat → Int32) × (Nat → Int32) × (Nat → Int32)} (h : fn_X12_copiesTask mF mN mCst mNF mS mM mC mNN mO m1 m2 mA mB mX mW mG = some x) : zCpP mF mN mCst mNF mNN mS mM mC mW mO m1 m2 mX mG mA mB x := by
  unfold fn_X12_copiesTask at h
  simp only [zn] at h
  refine zl_ip (P := zCpP mF mN mCst mNF mNN mS mM mC mW mO m1 m2 mX mG mA mB) (fun s => 0 ≤ s.1 ∧ s.1 ≤ 4 ∧ zCq 4 s.1 mNF s.2.1 ∧ zCq 4 s.1 mS s.2.2.1 ∧ zCq 4 s.1 mM s.2.2.2.1 ∧ zCq 4 s.1 mC s.2.2.2.2) ?_ _ _ _ ?_ h
  rotate_left
  · exact ⟨(show (0 : Int32) ≤ 0 by decide), (show (0 : Int32) ≤ 4 by decide), zCq_0, zCq_0, zCq_0, zCq_0⟩
  intro s back o ⟨H1, H2, A1, A2, A3, A4⟩ hb ho
  by_cases c : 4 ≤ s.1
  · rw [if_pos c] at ho
    have e : s.1 = 4 := by grind
    rw [e] at A1 A2 A3 A4
    refine zl_ip (P := zCpP mF mN mCst mNF mNN mS mM mC mW mO m1 m2 mX mG mA mB) (fun t => 0 ≤ t.1 ∧ t.1 ≤ 14 ∧ zCq 14 t.1 mNN t.2.1 ∧ zCq 14 t.1 mO t.2.2.1 ∧ zCq 14 t.1 m1 t.2.2.2.1 ∧ zCq 14 t.1 m2 t.2.2.2.2.1 ∧ zCqL 14 t.1 mA t.2.2.2.2.2.1 ∧ zCqL 14 t.1 mB t.2.2.2.2.2.2.1 ∧ zCq 14 t.1 mX t.2.2.2.2.2.2.2.1 ∧ zCq 14 t.1 mW t.2.2.2.2.2.2.2.2.1 ∧ zCq 14 t.1 mG t.2.2.2.2.2.2.2.2.2) ?_ _ _ _ ?_ ho
    rotate_left
    · exact ⟨(show (0 : Int32) ≤ 0 by decide), (show (0 : Int32) ≤ 14 by decide), zCq_0, zCq_0, zCq_0, zCq_0, zCqL_0, zCqL_0, zCq_0, zCq_0, zCq_0⟩
    intro t back' o' ⟨K1, K2, B1, B2, B3, B4, B5, B6, B7, B8, B9⟩ hb' ho'
    by_cases c' : 14 ≤ t.1
    · rw [if_pos c'] at ho'
      have e' : t.1 = 14 := by grind
      rw [e'] at B1 B2 B3 B4 B5 B6 B7 B8 B9
      rw [← Option.some.inj ho']
      have u1 : upd mF (0 : Int32).toNatClampNeg (mF (1 : Int32).toNatClampNeg) 0 = mF 1 := by rw [zn01.1, zn01.2]; exact if_pos rfl
      have u2 : upd mN (0 : Int32).toNatClampNeg (mN (1 : Int32).toNatClampNeg) 0 = mN 1 := by rw [zn01.1, zn01.2]; exact if_pos rfl
      have u3 : upd mCst (0 : Int32).toNatClampNeg (mCst (1 : Int32).toNatClampNeg) 0 = mCst 1 := by rw [zn01.1, zn01.2]; exact if_pos rfl
      exact ⟨u1, u2, u3, A1, A2, A3, A4, B1, B2, B3, B4, B5, B6, B7, B8, B9⟩
    · rw [if_neg c'] at ho'
      obtain ⟨-, ho'⟩ := zg_s ho'
      obtain ⟨-, ho'⟩ := zg_s ho'
      have kk : 0 ≤ t.1 ∧ t.1 < 14 := ⟨K1, by grind⟩
      have dd : (0 : Int32) ≤ 14 ∧ (14 : Int32) ≤ 14 := by decide
      have E1 := zCq_s dd kk B1
      have E2 := zCq_s dd kk B2
      have E3 := zCq_s dd kk B3
      have E4 := zCq_s dd kk B4
      have E5 := zCqL_s dd kk B5
      have E6 := zCqL_s dd kk B6
      have E7 := zCq_s dd kk B7
      have E8 := zCq_s dd kk B8
      have E9 := zCq_s dd kk B9
      have l1 : 0 ≤ t.1 + 1 := by grind
      have l2 : t.1 + 1 ≤ 14 := by grind
      refine hb' _ _ ?_ ho'
      exact ⟨l1, l2, E1, E2, E3, E4, E5, E6, E7, E8, E9⟩
  · rw [if_neg c] at ho
    obtain ⟨-, ho⟩ := zg_s ho
    obtain ⟨-, ho⟩ := zg_s ho
    have kk : 0 ≤ s.1 ∧ s.1 < 4 := ⟨H1, by grind⟩
    have dd : (0 : Int32) ≤ 4 ∧ (4 : Int32) ≤ 14 := by decide
    have E1 := zCq_s dd kk A1
    have E2 := zCq_s dd kk A2
    have E3 := zCq_s dd kk A3
    have E4 := zCq_s dd kk A4
    have l1 : 0 ≤ s.1 + 1 := by grind
    have l2 : s.1 + 1 ≤ 4 := by grind
    refine hb _ _ ?_ ho
    exact ⟨l1, l2, E1, E2, E3, E4⟩
theorem zTN_of {cF cc cN inp : Int32} {nF nN stp mst prc al made amt op fx jn lets : Nat → Int32} {mF mN mNF mNN mS mM mC mW mCst mO m1 m2 mX mG : Nat → Int32} {mA mB : Nat → Int64} {x : (Nat → Int32) × (Nat → Int32) × (Nat → Int32) × (Nat → Int32) × (Nat → Int32) × (Nat → Int32) × (Nat → Int32) × (Nat → Int32) × (Nat → Int32) × (Nat → Int32) × (Nat → Int32) × (Nat → Int64) × (Nat → Int64) × (Nat → Int32) × (Nat → Int32) × (Nat → Int32)} (h : fn_X12_copiesTask mF mN mCst mNF mS mM mC mNN mO m1 m2 mA mB mX mW mG = some x) (hR : zTS cF cc cN inp nF nN stp mst prc al made amt op fx jn lets mF mN mNF mNN mS mM mC mW mCst mO m1 m2 mX mG mA mB) (h1 : ¬ mF 1 = 0) (h2 : ¬ mN 1 = 0) : zTN cF cc cN inp nF nN stp mst prc al made amt op fx jn lets x.1 x.2.1 x.2.2.2.1 x.2.2.2.2.2.2.2.1 x.2.2.2.2.1 x.2.2.2.2.2.1 x.2.2.2.2.2.2.1 x.2.2.2.2.2.2.2.2.2.2.2.2.2.2.1 x.2.2.1 x.2.2.2.2.2.2.2.2.1 x.2.2.2.2.2.2.2.2.2.1 x.2.2.2.2.2.2.2.2.2.2.1 x.2.2.2.2.2.2.2.2.2.2.2.2.2.1 x.2.2.2.2.2.2.2.2.2.2.2.2.2.2.2 x.2.2.2.2.2.2.2.2.2.2.2.1 x.2.2.2.2.2.2.2.2.2.2.2.2.1 := by
  obtain ⟨⟨a1, a2, a3⟩, ⟨b1, b2, b3⟩, ⟨c1, c2, c3⟩, hi, hf, hn, hg⟩ := hR
  obtain ⟨k1, k2, k3, kNF, kS, kM, kC, kNN, kO, k1', k2', kA, kB, kX, kW, kG⟩ := zCopy h
  refine ⟨⟨k1.trans a1, a2, a3⟩, ⟨k2.trans b1, b2, b3⟩, ⟨k3.trans c1, c2, c3⟩, fun q => absurd (b1.trans q) h2, fun _ => by grind, hi, fun i i1 i2 => ?_, fun i i1 i2 => ?_, fun i i1 i2 => ?_, fun i j i1 i2 j1 j2 => ?_⟩
  · obtain ⟨q1, q2, q3, q4, q5, q6, q7⟩ := hf i i1 i2
    rw [kNF.1 i i1 (by grind), kS.1 i i1 (by grind), kM.1 i i1 (by grind), kC.1 i i1 (by grind)]
    exact ⟨q1, q2, q3, q4, q5, q6, q7⟩
  · have i3 : i < 14 := by grind
    unfold zN01
    rw [kNN.1 i i1 i3, kO.1 i i1 i3, kX.1 i i1 i3, kW.1 i i1 i3, k1'.1 i i1 i3, k2'.1 i i1 i3, kA.1 i i1 i3, kB.1 i i1 i3]
    exact hn i i1 i2
  · have i3 : i < 14 := by grind
    obtain ⟨q1, q2, q3⟩ := hg.1 i i1 i2
    rw [kG.1 i i1 i3]
    refine ⟨q1, q2, ?_⟩
    rw [kG.1 _ q1 (by grind)]
    exact q3
  · rw [kG.1 i i1 (by grind), kG.1 j j1 (by grind)]
    exact hg.2.1 i j i1 i2 j1 j2
theorem zFR_tr {mF mN mNF mNN mS mM mC mW mCst mO m1 m2 mX mG : Nat → Int32} {mA mB : Nat → Int64} {nF nN nNF nNN nS nM nC nW nCst nO n1 n2 nX nG : Nat → Int32} {nA nB : Nat → Int64} {pF pN pNF pNN pS pM pC pW pCst pO p1 p2 pX pG : Nat → Int32} {pA pB : Nat → Int64} (h : zFR mF mN mNF mNN mS mM mC mW mCst mO m1 m2 mX mG mA mB nF nN nNF nNN nS nM nC nW nCst nO n1 n2 nX nG nA nB) (k : zFR nF nN nNF nNN nS nM nC nW nCst nO n1 n2 nX nG nA nB pF pN pNF pNN pS pM pC pW pCst pO p1 p2 pX pG pA pB) : zFR mF mN mNF mNN mS mM mC mW mCst mO m1 m2 mX mG mA mB pF pN pNF pNN pS pM pC pW pCst pO p1 p2 pX pG pA pB := by
  obtain ⟨a1, a2, a3, a4, a5, a6, a7, a8, a9, a10, a11, a12, a13, a14, a15, a16⟩ := h
  obtain ⟨b1, b2, b3, b4, b5, b6, b7, b8, b9, b10, b11, b12, b13, b14, b15, b16⟩ := k
  exact ⟨b1.trans a1, b2.trans a2, fun y hy => (b3 y hy).trans (a3 y hy), fun y hy => (b4 y hy).trans (a4 y hy), fun y hy => (b5 y hy).trans (a5 y hy), fun y hy => (b6 y hy).trans (a6 y hy), fun y hy => (b7 y hy).trans (a7 y hy), fun y hy => (b8 y hy).trans (a8 y hy), b9.trans a9, fun y hy => (b10 y hy).trans (a10 y hy), fun y hy => (b11 y hy).trans (a11 y hy), fun y hy => (b12 y hy).trans (a12 y hy), fun y hy => (b13 y hy).trans (a13 y hy), fun y hy => (b14 y hy).trans (a14 y hy), fun y hy => (b15 y hy).trans (a15 y hy), fun y hy => (b16 y hy).trans (a16 y hy)⟩
/-- what doesn't touch the TASK at hand keeps it -/
theorem zTN_fr {cF cc cN inp : Int32} {nF nN stp mst prc al made amt op fx jn lets : Nat → Int32} {mF mN mNF mNN mS mM mC mW mCst mO m1 m2 mX mG : Nat → Int32} {mA mB : Nat → Int64} {pF pN pNF pNN pS pM pC pW pCst pO p1 p2 pX pG : Nat → Int32} {pA pB : Nat → Int64} (h : zTN cF cc cN inp nF nN stp mst prc al made amt op fx jn lets mF mN mNF mNN mS mM mC mW mCst mO m1 m2 mX mG mA mB) (k : zFR mF mN mNF mNN mS mM mC mW mCst mO m1 m2 mX mG mA mB pF pN pNF pNN pS pM pC pW pCst pO p1 p2 pX pG pA pB) : zTN cF cc cN inp nF nN stp mst prc al made amt op fx jn lets pF pN pNF pNN pS pM pC pW pCst pO p1 p2 pX pG pA pB := by
  obtain ⟨⟨a1, a2, a3⟩, ⟨b1, b2, b3⟩, ⟨c1, c2, c3⟩, hz, hp, hi, hf, hn, hg⟩ := h
  obtain ⟨kF, kN, kNF, kNN, kS, kM, kC, kW, kCst, kO, k1', k2', kX, kG, kA, kB⟩ := k
  have l4 : ∀ i : Int32, 0 ≤ i → i < cF → i.toNatClampNeg < 4 := fun i i1 i2 => by have := zcl' (c := 4) i1 (by grind); rw [show (4 : Int32).toNatClampNeg = 4 by decide +kernel] at this; exact this
  have l14 : ∀ i : Int32, 0 ≤ i → i < 14 → i.toNatClampNeg < 14 := fun i i1 i2 => by have := zcl' (c := 14) i1 i2; rw [show (14 : Int32).toNatClampNeg = 14 by decide +kernel] at this; exact this
  refine ⟨⟨kF.trans a1, a2, a3⟩, ⟨kN.trans b1, b2, b3⟩, ⟨kCst.trans c1, c2, c3⟩, hz, hp, hi, fun i i1 i2 => ?_, fun i i1 i2 => ?_, fun i i1 i2 => ?_, fun i j i1 i2 j1 j2 => ?_⟩
  · have l := l4 i i1 i2
    rw [kNF _ l, kS _ l, kM _ l, kC _ l]
    exact hf i i1 i2
  · have l := l14 i i1 (by grind)
    unfold zN01
    rw [kNN _ l, kO _ l, kX _ l, kW _ l, k1' _ l, k2' _ l, kA _ l, kB _ l]
    exact hn i i1 i2
  · obtain ⟨q1, q2, q3⟩ := hg.1 i i1 i2
    rw [kG _ (l14 i i1 (by grind))]
    refine ⟨q1, q2, ?_⟩
    rw [kG _ (l14 _ q1 (by grind))]
    exact q3
  · rw [kG _ (l14 i i1 (by grind)), kG _ (l14 j j1 (by grind))]
    exact hg.2 i j i1 i2 j1 j2
