/-! loops, one alone or two side by side, where the answer is there -/
theorem zl_ip {σ ρ : Type} {B : σ → (σ → Option ρ) → Option ρ} {P : ρ → Prop} (I : σ → Prop) (hB : ∀ (s : σ) (back : σ → Option ρ) (o : ρ), I s → (∀ t o, I t → back t = some o → P o) → B s back = some o → P o) : ∀ (n : Nat) (s : σ) (o : ρ), I s → zl B n s = some o → P o := by
  intro n
  induction n with
  | zero => intro s o _ h; exact (zl_0 h).elim
  | succ n ih => intro s o hI h; exact hB s (zl B n) o hI (fun t o ht hb => ih t o ht hb) (zl_s rfl h)
theorem zl_ip2 {σ τ ρ κ : Type} {B : σ → (σ → Option ρ) → Option ρ} {D : τ → (τ → Option κ) → Option κ} {P : ρ → κ → Prop} (R : σ → τ → Prop) (hB : ∀ (s : σ) (t : τ) (k1 : σ → Option ρ) (k2 : τ → Option κ) (o1 : ρ) (o2 : κ), R s t → (∀ s t o1 o2, R s t → k1 s = some o1 → k2 t = some o2 → P o1 o2) → B s k1 = some o1 → D t k2 = some o2 → P o1 o2) : ∀ (n m : Nat) (s : σ) (t : τ) (o1 : ρ) (o2 : κ), R s t → zl B n s = some o1 → zl D m t = some o2 → P o1 o2 := by
  intro n
  induction n with
  | zero => intro m s t o1 o2 _ h _; exact (zl_0 h).elim
  | succ n ih =>
    intro m s t o1 o2 hR h1 h2
    cases m with
    | zero => exact (zl_0 h2).elim
    | succ m => exact hB s t (zl B n) (zl D m) o1 o2 hR (fun s t o1 o2 hR h1 h2 => ih m s t o1 o2 hR h1 h2) (zl_s rfl h1) (zl_s rfl h2)
/-! counts -/
noncomputable def zct (b : Nat → Bool) : Nat → Int32
  | 0 => 0
  | k + 1 => zct b k + (if b k = true then 1 else 0)
theorem zct_t {b : Nat → Bool} {p : Int32} (h0 : 0 ≤ p) (h1 : p ≤ 1200) (hb : b p.toNatClampNeg = true) : zct b (p + 1).toNatClampNeg = zct b p.toNatClampNeg + 1 := by
  rw [zNx h0 h1]
  show zct b p.toNatClampNeg + (if b p.toNatClampNeg = true then 1 else 0) = _
  rw [if_pos hb]
theorem zct_f {b : Nat → Bool} {p : Int32} (h0 : 0 ≤ p) (h1 : p ≤ 1200) (hb : ¬ b p.toNatClampNeg = true) : zct b (p + 1).toNatClampNeg = zct b p.toNatClampNeg := by
  rw [zNx h0 h1]
  show zct b p.toNatClampNeg + (if b p.toNatClampNeg = true then 1 else 0) = _
  rw [if_neg hb]
  exact Int32.add_zero _
theorem zct_b (b : Nat → Bool) : ∀ k : Nat, k ≤ 1000 → 0 ≤ (zct b k).toInt ∧ (zct b k).toInt ≤ (k : Int) := by
  intro k
  induction k with
  | zero => intro _; show 0 ≤ (0 : Int32).toInt ∧ (0 : Int32).toInt ≤ 0; rw [zi_0]; omega
  | succ k ih =>
    intro hk
    have h := ih (by omega)
    show 0 ≤ (zct b k + (if b k = true then 1 else 0)).toInt ∧ (zct b k + (if b k = true then 1 else 0)).toInt ≤ ((k + 1 : Nat) : Int)
    by_cases c : b k = true
    · rw [if_pos c]
      have := zo_add (x := zct b k) (y := 1) (z := zct b k + 1) rfl rfl zi_1' (by omega)
      omega
    · rw [if_neg c]
      have := zo_add (x := zct b k) (y := 0) (z := zct b k + 0) rfl rfl zi_0 (by omega)
      omega
theorem zct_m (b : Nat → Bool) (k : Nat) : ∀ j : Nat, k + j ≤ 1000 → (zct b k).toInt ≤ (zct b (k + j)).toInt := by
  intro j
  induction j with
  | zero => intro _; exact Int.le_refl _
  | succ j ih =>
    intro hk
    have h := ih (by omega)
    have hb := zct_b b (k + j) (by omega)
    have e : zct b (k + (j + 1)) = zct b (k + j) + (if b (k + j) = true then 1 else 0) := rfl
    by_cases c : b (k + j) = true
    · rw [if_pos c] at e
      have := zo_add (x := zct b (k + j)) (y := 1) e rfl zi_1' (by omega)
      omega
    · rw [if_neg c] at e
      have := zo_add (x := zct b (k + j)) (y := 0) e rfl zi_0 (by omega)
      omega
theorem zct_c {a b : Nat → Bool} : ∀ k : Nat, (∀ j : Nat, j < k → a j = b j) → zct a k = zct b k := by
  intro k
  induction k with
  | zero => intro _; rfl
  | succ k ih =>
    intro h
    show zct a k + (if a k = true then 1 else 0) = zct b k + (if b k = true then 1 else 0)
    rw [ih (fun j hj => h j (by omega)), h k (by omega)]
theorem zcl' {p c : Int32} (h0 : 0 ≤ p) (h1 : p < c) : p.toNatClampNeg < c.toNatClampNeg := by
  have a := Int32.le_iff_toInt_le.mp h0
  have b := Int32.lt_iff_toInt_lt.mp h1
  rw [zi_0] at a
  show p.toInt.toNat < c.toInt.toNat
  omega
theorem zcle {p c : Int32} (h0 : 0 ≤ p) (h1 : p ≤ c) : p.toNatClampNeg ≤ c.toNatClampNeg := by
  have a := Int32.le_iff_toInt_le.mp h0
  have b := Int32.le_iff_toInt_le.mp h1
  rw [zi_0] at a
  show p.toInt.toNat ≤ c.toInt.toNat
  omega
/-- each place below a count is one of 32 bits -/
theorem zof {k : Nat} {c : Int32} (h0 : 0 ≤ c) (h : k < c.toNatClampNeg) : 0 ≤ Int32.ofNat k ∧ Int32.ofNat k < c ∧ (Int32.ofNat k).toNatClampNeg = k := by
  have hc := (zofn c h0).2
  have hl := Int32.toInt_lt c
  have e : (Int32.ofNat k).toInt = (k : Int) := Int32.toInt_ofNat_of_lt (by omega)
  refine ⟨Int32.le_iff_toInt_le.mpr (by rw [zi_0, e]; omega), Int32.lt_iff_toInt_lt.mpr (by rw [e]; omega), ?_⟩
  show (Int32.ofNat k).toInt.toNat = k
  omega
theorem zct_b32 {b : Nat → Bool} {p : Int32} (h0 : 0 ≤ p) (h1 : p ≤ 14) : 0 ≤ zct b p.toNatClampNeg ∧ zct b p.toNatClampNeg ≤ p := by
  have hp := (zofn p h0).2
  have h2 := Int32.le_iff_toInt_le.mp h1
  rw [show (14 : Int32).toInt = 14 by decide +kernel] at h2
  have h := zct_b b p.toNatClampNeg (by omega)
  exact ⟨Int32.le_iff_toInt_le.mpr (by rw [zi_0]; exact h.1), Int32.le_iff_toInt_le.mpr (by omega)⟩
theorem zct_m32 {b : Nat → Bool} {p q : Int32} (h0 : 0 ≤ p) (h1 : p ≤ q) (h2 : q ≤ 14) : zct b p.toNatClampNeg ≤ zct b q.toNatClampNeg := by
  have hp := (zofn p h0).2
  have hq := (zofn q (by grind)).2
  have k1 := Int32.le_iff_toInt_le.mp h1
  have k2 := Int32.le_iff_toInt_le.mp h2
  rw [show (14 : Int32).toInt = 14 by decide +kernel] at k2
  have h := zct_m b p.toNatClampNeg (q.toNatClampNeg - p.toNatClampNeg) (by omega)
  rw [show p.toNatClampNeg + (q.toNatClampNeg - p.toNatClampNeg) = q.toNatClampNeg by omega] at h
  exact Int32.le_iff_toInt_le.mpr h
/-! a TASK that is at hand -/
noncomputable def zF0 (cF : Int32) (nF stp mst prc mNF mS mM mC : Nat → Int32) : Prop := ∀ i : Int32, 0 ≤ i → i < cF → zNm (nF i.toNatClampNeg) (mNF i.toNatClampNeg) ∧ stp i.toNatClampNeg = mS i.toNatClampNeg ∧ mst i.toNatClampNeg = mM i.toNatClampNeg ∧ prc i.toNatClampNeg = mC i.toNatClampNeg ∧ (1 ≤ stp i.toNatClampNeg ∧ stp i.toNatClampNeg ≤ 1000000) ∧ (1 ≤ mst i.toNatClampNeg ∧ mst i.toNatClampNeg ≤ 1000000000) ∧ (0 ≤ prc i.toNatClampNeg ∧ prc i.toNatClampNeg ≤ 999)
noncomputable def zN01 (i cF : Int32) (nN op fx al made amt lets mNN mO m1 m2 mX mW : Nat → Int32) (mA mB : Nat → Int64) : Prop :=
  zNm (nN i.toNatClampNeg) (mNN i.toNatClampNeg) ∧ op i.toNatClampNeg = mO i.toNatClampNeg ∧ fx i.toNatClampNeg = mX i.toNatClampNeg ∧ al i.toNatClampNeg = mW i.toNatClampNeg
  ∧ made (2 * i + 0).toNatClampNeg = m1 i.toNatClampNeg ∧ made (2 * i + 1).toNatClampNeg = m2 i.toNatClampNeg ∧ mA i.toNatClampNeg = (amt (2 * i + 0).toNatClampNeg).toInt64 ∧ mB i.toNatClampNeg = (amt (2 * i + 1).toNatClampNeg).toInt64
  ∧ (0 ≤ op i.toNatClampNeg ∧ op i.toNatClampNeg ≤ 5) ∧ ((-1) ≤ fx i.toNatClampNeg ∧ fx i.toNatClampNeg < cF) ∧ ((-1) ≤ al i.toNatClampNeg ∧ al i.toNatClampNeg ≤ 1000000)
  ∧ ((-1) ≤ made (2 * i + 0).toNatClampNeg ∧ made (2 * i + 0).toNatClampNeg < i) ∧ ((-1) ≤ made (2 * i + 1).toNatClampNeg ∧ made (2 * i + 1).toNatClampNeg < i)
  ∧ ((-10000000) ≤ amt (2 * i + 0).toNatClampNeg ∧ amt (2 * i + 0).toNatClampNeg ≤ 10000000) ∧ ((-10000000) ≤ amt (2 * i + 1).toNatClampNeg ∧ amt (2 * i + 1).toNatClampNeg ≤ 10000000)
  ∧ (op i.toNatClampNeg = 0 → made (2 * i + 0).toNatClampNeg = (-1) ∧ made (2 * i + 1).toNatClampNeg = (-1) ∧ amt (2 * i + 0).toNatClampNeg ≤ amt (2 * i + 1).toNatClampNeg)
  ∧ lets i.toNatClampNeg = zDeep (op i.toNatClampNeg) i made lets
noncomputable def zN0 (cN cF : Int32) (nN op fx al made amt lets mNN mO m1 m2 mX mW : Nat → Int32) (mA mB : Nat → Int64) : Prop := ∀ i : Int32, 0 ≤ i → i < cN → zN01 i cF nN op fx al made amt lets mNN mO m1 m2 mX mW mA mB
noncomputable def zG0 (cN : Int32) (jn mG : Nat → Int32) : Prop := (∀ i : Int32, 0 ≤ i → i < cN → 0 ≤ mG i.toNatClampNeg ∧ mG i.toNatClampNeg ≤ i ∧ mG (mG i.toNatClampNeg).toNatClampNeg = mG i.toNatClampNeg) ∧ (∀ i j : Int32, 0 ≤ i → i < cN → 0 ≤ j → j < cN → (jn i.toNatClampNeg = jn j.toNatClampNeg ↔ mG i.toNatClampNeg = mG j.toNatClampNeg))
noncomputable def zTN (cF cc cN inp : Int32) (nF nN stp mst prc al made amt op fx jn lets : Nat → Int32) (mF mN mNF mNN mS mM mC mW mCst mO m1 m2 mX mG : Nat → Int32) (mA mB : Nat → Int64) : Prop := (mF 0 = cF ∧ 0 ≤ cF ∧ cF ≤ 4) ∧ (mN 0 = cN ∧ 0 ≤ cN ∧ cN ≤ 14) ∧ (mCst 0 = cc ∧ 0 ≤ cc ∧ cc ≤ 999) ∧ (cN = 0 → cc = 0) ∧ (0 < cN → 0 < cF) ∧ inp = zCnt op cN.toNatClampNeg ∧ zF0 cF nF stp mst prc mNF mS mM mC ∧ zN0 cN cF nN op fx al made amt lets mNN mO m1 m2 mX mW mA mB ∧ zG0 cN jn mG
/-! the TASK that was read comes to be the one at hand -/
noncomputable def zCq (d k : Int32) (S T : Nat → Int32) : Prop := (∀ i : Int32, 0 ≤ i → i < k → T i.toNatClampNeg = S (d + i).toNatClampNeg) ∧ (∀ i : Int32, d ≤ i → T i.toNatClampNeg = S i.toNatClampNeg)
noncomputable def zCqL (d k : Int32) (S T : Nat → Int64) : Prop := (∀ i : Int32, 0 ≤ i → i < k → T i.toNatClampNeg = S (d + i).toNatClampNeg) ∧ (∀ i : Int32, d ≤ i → T i.toNatClampNeg = S i.toNatClampNeg)
theorem zCq_0 {d : Int32} {S : Nat → Int32} : zCq d 0 S S := ⟨fun i i1 i2 => absurd i2 (by grind), fun _ _ => rfl⟩
theorem zCqL_0 {d : Int32} {S : Nat → Int64} : zCqL d 0 S S := ⟨fun i i1 i2 => absurd i2 (by grind), fun _ _ => rfl⟩
theorem zCq_s {d k : Int32} {S T : Nat → Int32} (hd : 0 ≤ d ∧ d ≤ 14) (hk : 0 ≤ k ∧ k < d) (h : zCq d k S T) : zCq d (k + 1) S (upd T k.toNatClampNeg (T (d + k).toNatClampNeg)) := by
  refine ⟨fun i i1 i2 => ?_, fun i i1 => ?_⟩
  · rw [zup hk.1 i1]
    by_cases q : i = k
    · rw [if_pos q, q]; exact h.2 (d + k) (by (first | ((try clear h); grind) | grind))
    · rw [if_neg q]; exact h.1 i i1 (by (first | ((try clear h); grind) | grind))
  · rw [zup hk.1 (by (first | ((try clear h); grind) | grind)), if_neg (by (first | ((try clear h); grind) | grind))]; exact h.2 i i1
theorem zCqL_s {d k : Int32} {S T : Nat → Int64} (hd : 0 ≤ d ∧ d ≤ 14) (hk : 0 ≤ k ∧ k < d) (h : zCqL d k S T) : zCqL d (k + 1) S (vp_updL T k.toNatClampNeg (T (d + k).toNatClampNeg)) := by
  refine ⟨fun i i1 i2 => ?_, fun i i1 => ?_⟩
  · rw [zupL hk.1 i1]
    by_cases q : i = k
    · rw [if_pos q, q]; exact h.2 (d + k) (by (first | ((try clear h); grind) | grind))
    · rw [if_neg q]; exact h.1 i i1 (by (first | ((try clear h); grind) | grind))
  · rw [zupL hk.1 (by (first | ((try clear h); grind) | grind)), if_neg (by (first | ((try clear h); grind) | grind))]; exact h.2 i i1
noncomputable def zCpP (mF mN mCst mNF mNN mS mM mC mW mO m1 m2 mX mG : Nat → Int32) (mA mB : Nat → Int64) (x : (Nat → Int32) × (Nat → Int32) × (Nat → Int32) × (Nat → Int32) × (Nat → Int32) × (Nat → Int32) × (Nat → Int32) × (Nat → Int32) × (Nat → Int32) × (Nat → Int32) × (Nat → Int32) × (Nat → Int64) × (Nat → Int64) × (Nat → Int32) × (Nat → Int32) × (Nat → Int32)) : Prop := x.1 0 = mF 1 ∧ x.2.1 0 = mN 1 ∧ x.2.2.1 0 = mCst 1 ∧ zCq 4 4 mNF x.2.2.2.1 ∧ zCq 4 4 mS x.2.2.2.2.1 ∧ zCq 4 4 mM x.2.2.2.2.2.1 ∧ zCq 4 4 mC x.2.2.2.2.2.2.1 ∧ zCq 14 14 mNN x.2.2.2.2.2.2.2.1 ∧ zCq 14 14 mO x.2.2.2.2.2.2.2.2.1 ∧ zCq 14 14 m1 x.2.2.2.2.2.2.2.2.2.1 ∧ zCq 14 14 m2 x.2.2.2.2.2.2.2.2.2.2.1 ∧ zCqL 14 14 mA x.2.2.2.2.2.2.2.2.2.2.2.1 ∧ zCqL 14 14 mB x.2.2.2.2.2.2.2.2.2.2.2.2.1 ∧ zCq 14 14 mX x.2.2.2.2.2.2.2.2.2.2.2.2.2.1 ∧ zCq 14 14 mW x.2.2.2.2.2.2.2.2.2.2.2.2.2.2.1 ∧ zCq 14 14 mG x.2.2.2.2.2.2.2.2.2.2.2.2.2.2.2
set_option maxRecDepth 100000 in
set_option maxHeartbeats 4000000 in
theorem zCopy {mF mN mCst mNF mNN mS mM mC mW mO m1 m2 mX mG : Nat → Int32} {mA mB : Nat → Int64} {x : (Nat → Int32) × (Nat → Int32) × (Nat → Int32) × (Nat → Int32) × (Nat → Int32) × (Nat → Int32) × (Nat → Int32) × (Nat → Int32) × (Nat → Int32) × (Nat → Int32) × (Nat → Int32) × (Nat → Int64) × (Nat → Int64) × (Nat → Int32) × (Nat → Int32) × (Nat → Int32)} (h : fn_X12_copiesTask mF mN mCst mNF mS mM mC mNN mO m1 m2 mA mB mX mW mG = some x) : zCpP mF mN mCst mNF mNN mS mM mC mW mO m1 m2 mX mG mA mB x := by
  unfold fn_X12_copiesTask at h
  simp only [zn] at h
  refine zl_ip (P := zCpP mF mN mCst mNF mNN mS mM mC mW mO m1 m2 mX mG mA mB) (fun s => 0 ≤ s.1 ∧ s.1 ≤ 4 ∧ zCq 4 s.1 mNF s.2.1 ∧ zCq 4 s.1 mS s.2.2.1 ∧ zCq 4 s.1 mM s.2.2.2.1 ∧ zCq 4 s.1 mC s.2.2.2.2) ?_ _ _ _ ?_ h
  rotate_left
  · exact ⟨(show (0 : Int32) ≤ 0 by decide), (show (0 : Int32) ≤ 4 by decide), zCq_0, zCq_0, zCq_0, zCq_0⟩
  intro s back o ⟨H1, H2, A1, A2, A3, A4⟩ hb ho
  by_cases c : 4 ≤ s.1
  · rw [if_pos c] at ho
    have e : s.1 = 4 := by (first | ((try clear h); (try clear hb); (try clear ho); grind) | grind)
    rw [e] at A1 A2 A3 A4
    refine zl_ip (P := zCpP mF mN mCst mNF mNN mS mM mC mW mO m1 m2 mX mG mA mB) (fun t => 0 ≤ t.1 ∧ t.1 ≤ 14 ∧ zCq 14 t.1 mNN t.2.1 ∧ zCq 14 t.1 mO t.2.2.1 ∧ zCq 14 t.1 m1 t.2.2.2.1 ∧ zCq 14 t.1 m2 t.2.2.2.2.1 ∧ zCqL 14 t.1 mA t.2.2.2.2.2.1 ∧ zCqL 14 t.1 mB t.2.2.2.2.2.2.1 ∧ zCq 14 t.1 mX t.2.2.2.2.2.2.2.1 ∧ zCq 14 t.1 mW t.2.2.2.2.2.2.2.2.1 ∧ zCq 14 t.1 mG t.2.2.2.2.2.2.2.2.2) ?_ _ _ _ ?_ ho
    rotate_left
    · exact ⟨(show (0 : Int32) ≤ 0 by decide), (show (0 : Int32) ≤ 14 by decide), zCq_0, zCq_0, zCq_0, zCq_0, zCqL_0, zCqL_0, zCq_0, zCq_0, zCq_0⟩
    intro t back' o' ⟨K1, K2, B1, B2, B3, B4, B5, B6, B7, B8, B9⟩ hb' ho'
    by_cases c' : 14 ≤ t.1
    · rw [if_pos c'] at ho'
      have e' : t.1 = 14 := by (first | ((try clear h); (try clear hb); (try clear ho); grind) | grind)
      rw [e'] at B1 B2 B3 B4 B5 B6 B7 B8 B9
      rw [← Option.some.inj ho']
      have u1 : upd mF (0 : Int32).toNatClampNeg (mF (1 : Int32).toNatClampNeg) 0 = mF 1 := by rw [zn01.1, zn01.2]; exact if_pos rfl
      have u2 : upd mN (0 : Int32).toNatClampNeg (mN (1 : Int32).toNatClampNeg) 0 = mN 1 := by rw [zn01.1, zn01.2]; exact if_pos rfl
      have u3 : upd mCst (0 : Int32).toNatClampNeg (mCst (1 : Int32).toNatClampNeg) 0 = mCst 1 := by rw [zn01.1, zn01.2]; exact if_pos rfl
      exact ⟨u1, u2, u3, A1, A2, A3, A4, B1, B2, B3, B4, B5, B6, B7, B8, B9⟩
    · rw [if_neg c'] at ho'
      obtain ⟨-, ho'⟩ := zg_s ho'
      obtain ⟨-, ho'⟩ := zg_s ho'
      have kk : 0 ≤ t.1 ∧ t.1 < 14 := ⟨K1, by (first | ((try clear h); (try clear hb); (try clear ho); (try clear ho'); grind) | grind)⟩
      have dd : (0 : Int32) ≤ 14 ∧ (14 : Int32) ≤ 14 := by decide
      have E1 := zCq_s dd kk B1
      have E2 := zCq_s dd kk B2
      have E3 := zCq_s dd kk B3
      have E4 := zCq_s dd kk B4
      have E5 := zCqL_s dd kk B5
      have E6 := zCqL_s dd kk B6
      have E7 := zCq_s dd kk B7
      have E8 := zCq_s dd kk B8
      have E9 := zCq_s dd kk B9
      have l1 : 0 ≤ t.1 + 1 := by (first | ((try clear h); (try clear hb); (try clear ho); (try clear ho'); grind) | grind)
      have l2 : t.1 + 1 ≤ 14 := by (first | ((try clear h); (try clear hb); (try clear ho); (try clear ho'); grind) | grind)
      refine hb' _ _ ?_ ho'
      exact ⟨l1, l2, E1, E2, E3, E4, E5, E6, E7, E8, E9⟩
  · rw [if_neg c] at ho
    obtain ⟨-, ho⟩ := zg_s ho
    obtain ⟨-, ho⟩ := zg_s ho
    have kk : 0 ≤ s.1 ∧ s.1 < 4 := ⟨H1, by (first | ((try clear h); (try clear hb); (try clear ho); (try clear ho'); grind) | grind)⟩
    have dd : (0 : Int32) ≤ 4 ∧ (4 : Int32) ≤ 14 := by decide
    have E1 := zCq_s dd kk A1
    have E2 := zCq_s dd kk A2
    have E3 := zCq_s dd kk A3
    have E4 := zCq_s dd kk A4
    have l1 : 0 ≤ s.1 + 1 := by (first | ((try clear h); (try clear hb); (try clear ho); (try clear ho'); grind) | grind)
    have l2 : s.1 + 1 ≤ 4 := by (first | ((try clear h); (try clear hb); (try clear ho); (try clear ho'); grind) | grind)
    refine hb _ _ ?_ ho
    exact ⟨l1, l2, E1, E2, E3, E4⟩
theorem zTN_of {cF cc cN inp : Int32} {nF nN stp mst prc al made amt op fx jn lets : Nat → Int32} {mF mN mNF mNN mS mM mC mW mCst mO m1 m2 mX mG : Nat → Int32} {mA mB : Nat → Int64} {x : (Nat → Int32) × (Nat → Int32) × (Nat → Int32) × (Nat → Int32) × (Nat → Int32) × (Nat → Int32) × (Nat → Int32) × (Nat → Int32) × (Nat → Int32) × (Nat → Int32) × (Nat → Int32) × (Nat → Int64) × (Nat → Int64) × (Nat → Int32) × (Nat → Int32) × (Nat → Int32)} (h : fn_X12_copiesTask mF mN mCst mNF mS mM mC mNN mO m1 m2 mA mB mX mW mG = some x) (hR : zTS cF cc cN inp nF nN stp mst prc al made amt op fx jn lets mF mN mNF mNN mS mM mC mW mCst mO m1 m2 mX mG mA mB) (h1 : ¬ mF 1 = 0) (h2 : ¬ mN 1 = 0) : zTN cF cc cN inp nF nN stp mst prc al made amt op fx jn lets x.1 x.2.1 x.2.2.2.1 x.2.2.2.2.2.2.2.1 x.2.2.2.2.1 x.2.2.2.2.2.1 x.2.2.2.2.2.2.1 x.2.2.2.2.2.2.2.2.2.2.2.2.2.2.1 x.2.2.1 x.2.2.2.2.2.2.2.2.1 x.2.2.2.2.2.2.2.2.2.1 x.2.2.2.2.2.2.2.2.2.2.1 x.2.2.2.2.2.2.2.2.2.2.2.2.2.1 x.2.2.2.2.2.2.2.2.2.2.2.2.2.2.2 x.2.2.2.2.2.2.2.2.2.2.2.1 x.2.2.2.2.2.2.2.2.2.2.2.2.1 := by
  obtain ⟨⟨a1, a2, a3⟩, ⟨b1, b2, b3⟩, ⟨c1, c2, c3⟩, hi, hf, hn, hg⟩ := hR
  obtain ⟨k1, k2, k3, kNF, kS, kM, kC, kNN, kO, k1', k2', kA, kB, kX, kW, kG⟩ := zCopy h
  refine ⟨⟨k1.trans a1, a2, a3⟩, ⟨k2.trans b1, b2, b3⟩, ⟨k3.trans c1, c2, c3⟩, fun q => absurd (b1.trans q) h2, fun _ => by (first | ((try clear h); (try clear hR); grind) | grind), hi, fun i i1 i2 => ?_, fun i i1 i2 => ?_, fun i i1 i2 => ?_, fun i j i1 i2 j1 j2 => ?_⟩
  · obtain ⟨q1, q2, q3, q4, q5, q6, q7⟩ := hf i i1 i2
    rw [kNF.1 i i1 (by (first | ((try clear h); (try clear hR); grind) | grind)), kS.1 i i1 (by (first | ((try clear h); (try clear hR); grind) | grind)), kM.1 i i1 (by (first | ((try clear h); (try clear hR); grind) | grind)), kC.1 i i1 (by (first | ((try clear h); (try clear hR); grind) | grind))]
    exact ⟨q1, q2, q3, q4, q5, q6, q7⟩
  · have i3 : i < 14 := by (first | ((try clear h); (try clear hR); grind) | grind)
    unfold zN01
    rw [kNN.1 i i1 i3, kO.1 i i1 i3, kX.1 i i1 i3, kW.1 i i1 i3, k1'.1 i i1 i3, k2'.1 i i1 i3, kA.1 i i1 i3, kB.1 i i1 i3]
    exact hn i i1 i2
  · have i3 : i < 14 := by (first | ((try clear h); (try clear hR); grind) | grind)
    obtain ⟨q1, q2, q3⟩ := hg.1 i i1 i2
    rw [kG.1 i i1 i3]
    refine ⟨q1, q2, ?_⟩
    rw [kG.1 _ q1 (by (first | ((try clear h); (try clear hR); grind) | grind))]
    exact q3
  · rw [kG.1 i i1 (by (first | ((try clear h); (try clear hR); grind) | grind)), kG.1 j j1 (by (first | ((try clear h); (try clear hR); grind) | grind))]
    exact hg.2.1 i j i1 i2 j1 j2
theorem zFR_tr {mF mN mNF mNN mS mM mC mW mCst mO m1 m2 mX mG : Nat → Int32} {mA mB : Nat → Int64} {nF nN nNF nNN nS nM nC nW nCst nO n1 n2 nX nG : Nat → Int32} {nA nB : Nat → Int64} {pF pN pNF pNN pS pM pC pW pCst pO p1 p2 pX pG : Nat → Int32} {pA pB : Nat → Int64} (h : zFR mF mN mNF mNN mS mM mC mW mCst mO m1 m2 mX mG mA mB nF nN nNF nNN nS nM nC nW nCst nO n1 n2 nX nG nA nB) (k : zFR nF nN nNF nNN nS nM nC nW nCst nO n1 n2 nX nG nA nB pF pN pNF pNN pS pM pC pW pCst pO p1 p2 pX pG pA pB) : zFR mF mN mNF mNN mS mM mC mW mCst mO m1 m2 mX mG mA mB pF pN pNF pNN pS pM pC pW pCst pO p1 p2 pX pG pA pB := by
  obtain ⟨a1, a2, a3, a4, a5, a6, a7, a8, a9, a10, a11, a12, a13, a14, a15, a16⟩ := h
  obtain ⟨b1, b2, b3, b4, b5, b6, b7, b8, b9, b10, b11, b12, b13, b14, b15, b16⟩ := k
  exact ⟨b1.trans a1, b2.trans a2, fun y hy => (b3 y hy).trans (a3 y hy), fun y hy => (b4 y hy).trans (a4 y hy), fun y hy => (b5 y hy).trans (a5 y hy), fun y hy => (b6 y hy).trans (a6 y hy), fun y hy => (b7 y hy).trans (a7 y hy), fun y hy => (b8 y hy).trans (a8 y hy), b9.trans a9, fun y hy => (b10 y hy).trans (a10 y hy), fun y hy => (b11 y hy).trans (a11 y hy), fun y hy => (b12 y hy).trans (a12 y hy), fun y hy => (b13 y hy).trans (a13 y hy), fun y hy => (b14 y hy).trans (a14 y hy), fun y hy => (b15 y hy).trans (a15 y hy), fun y hy => (b16 y hy).trans (a16 y hy)⟩
/-- what doesn't touch the TASK at hand keeps it -/
theorem zTN_fr {cF cc cN inp : Int32} {nF nN stp mst prc al made amt op fx jn lets : Nat → Int32} {mF mN mNF mNN mS mM mC mW mCst mO m1 m2 mX mG : Nat → Int32} {mA mB : Nat → Int64} {pF pN pNF pNN pS pM pC pW pCst pO p1 p2 pX pG : Nat → Int32} {pA pB : Nat → Int64} (h : zTN cF cc cN inp nF nN stp mst prc al made amt op fx jn lets mF mN mNF mNN mS mM mC mW mCst mO m1 m2 mX mG mA mB) (k : zFR mF mN mNF mNN mS mM mC mW mCst mO m1 m2 mX mG mA mB pF pN pNF pNN pS pM pC pW pCst pO p1 p2 pX pG pA pB) : zTN cF cc cN inp nF nN stp mst prc al made amt op fx jn lets pF pN pNF pNN pS pM pC pW pCst pO p1 p2 pX pG pA pB := by
  obtain ⟨⟨a1, a2, a3⟩, ⟨b1, b2, b3⟩, ⟨c1, c2, c3⟩, hz, hp, hi, hf, hn, hg⟩ := h
  obtain ⟨kF, kN, kNF, kNN, kS, kM, kC, kW, kCst, kO, k1', k2', kX, kG, kA, kB⟩ := k
  have l4 : ∀ i : Int32, 0 ≤ i → i < cF → i.toNatClampNeg < 4 := fun i i1 i2 => by have := zcl' (c := 4) i1 (by (first | ((try clear h); (try clear k); (try clear l4); grind) | grind)); rw [show (4 : Int32).toNatClampNeg = 4 by decide +kernel] at this; exact this
  have l14 : ∀ i : Int32, 0 ≤ i → i < 14 → i.toNatClampNeg < 14 := fun i i1 i2 => by have := zcl' (c := 14) i1 i2; rw [show (14 : Int32).toNatClampNeg = 14 by decide +kernel] at this; exact this
  refine ⟨⟨kF.trans a1, a2, a3⟩, ⟨kN.trans b1, b2, b3⟩, ⟨kCst.trans c1, c2, c3⟩, hz, hp, hi, fun i i1 i2 => ?_, fun i i1 i2 => ?_, fun i i1 i2 => ?_, fun i j i1 i2 j1 j2 => ?_⟩
  · have l := l4 i i1 i2
    rw [kNF _ l, kS _ l, kM _ l, kC _ l]
    exact hf i i1 i2
  · have l := l14 i i1 (by (first | ((try clear h); (try clear k); (try clear l4); (try clear l14); grind) | grind))
    unfold zN01
    rw [kNN _ l, kO _ l, kX _ l, kW _ l, k1' _ l, k2' _ l, kA _ l, kB _ l]
    exact hn i i1 i2
  · obtain ⟨q1, q2, q3⟩ := hg.1 i i1 i2
    rw [kG _ (l14 i i1 (by (first | ((try clear h); (try clear k); (try clear l4); (try clear l14); grind) | grind)))]
    refine ⟨q1, q2, ?_⟩
    rw [kG _ (l14 _ q1 (by (first | ((try clear h); (try clear k); (try clear l4); (try clear l14); grind) | grind)))]
    exact q3
  · rw [kG _ (l14 i i1 (by (first | ((try clear h); (try clear k); (try clear l4); (try clear l14); grind) | grind))), kG _ (l14 j j1 (by (first | ((try clear h); (try clear k); (try clear l4); (try clear l14); grind) | grind)))]
    exact hg.2 i j i1 i2 j1 j2
/-! task() of both: what comes to be at hand -/
noncomputable def zRR2 (hh ba bw : Int32) (mH mRf : Nat → Int32) (mF mN mNF mNN mS mM mC mW mCst mO m1 m2 mX mG : Nat → Int32) (mA mB : Nat → Int64) (r : Int32 × Int32 × Int32 × Int32 × Int32 × Int32 × Int32 × Int32 × Int32 × Int32 × Int32 × Int32 × Int32 × Int32 × (Nat → Int32) × (Nat → Int32) × (Nat → Int32) × (Nat → Int32) × (Nat → Int32) × (Nat → Int32) × (Nat → Int32) × (Nat → Int32) × (Nat → Int32) × (Nat → Int32) × (Nat → Int32) × (Nat → Int32)) (q : Int32 × Int32 × Int32 × Int64 × Int32 × Int32 × Int32 × Int32 × Int32 × Int32 × Int32 × Int32 × Int32 × Int32 × (Nat → Int32) × (Nat → Int32) × (Nat → Int32) × (Nat → Int32) × (Nat → Int32) × (Nat → Int32) × (Nat → Int32) × (Nat → Int32) × (Nat → Int32) × (Nat → Int32) × (Nat → Int32) × (Nat → Int32) × (Nat → Int32) × (Nat → Int32) × (Nat → Int64) × (Nat → Int64) × (Nat → Int32) × (Nat → Int32)) : Prop :=
  (r.1 = 0 ∧ q.1 = (-1) ∧ q.2.2.2.2.1 = r.2.2.1 ∧ q.2.2.2.2.2.2.1 = r.2.2.2.1 ∧ zFR mF mN mNF mNN mS mM mC mW mCst mO m1 m2 mX mG mA mB q.2.2.2.2.2.2.2.2.2.2.2.2.2.2.1 q.2.2.2.2.2.2.2.2.2.2.2.2.2.2.2.1 q.2.2.2.2.2.2.2.2.2.2.2.2.2.2.2.2.2.1 q.2.2.2.2.2.2.2.2.2.2.2.2.2.2.2.2.2.2.1 q.2.2.2.2.2.2.2.2.2.2.2.2.2.2.2.2.2.2.2.1 q.2.2.2.2.2.2.2.2.2.2.2.2.2.2.2.2.2.2.2.2.1 q.2.2.2.2.2.2.2.2.2.2.2.2.2.2.2.2.2.2.2.2.2.1 q.2.2.2.2.2.2.2.2.2.2.2.2.2.2.2.2.2.2.2.2.2.2.1 q.2.2.2.2.2.2.2.2.2.2.2.2.2.2.2.2.1 q.2.2.2.2.2.2.2.2.2.2.2.2.2.2.2.2.2.2.2.2.2.2.2.1 q.2.2.2.2.2.2.2.2.2.2.2.2.2.2.2.2.2.2.2.2.2.2.2.2.1 q.2.2.2.2.2.2.2.2.2.2.2.2.2.2.2.2.2.2.2.2.2.2.2.2.2.1 q.2.2.2.2.2.2.2.2.2.2.2.2.2.2.2.2.2.2.2.2.2.2.2.2.2.2.1 q.2.2.2.2.2.2.2.2.2.2.2.2.2.2.2.2.2.2.2.2.2.2.2.2.2.2.2.1 q.2.2.2.2.2.2.2.2.2.2.2.2.2.2.2.2.2.2.2.2.2.2.2.2.2.2.2.2.1 q.2.2.2.2.2.2.2.2.2.2.2.2.2.2.2.2.2.2.2.2.2.2.2.2.2.2.2.2.2.1 ∧ q.2.2.2.2.2.2.2.2.2.2.2.2.2.2.2.2.2.2.2.2.2.2.2.2.2.2.2.2.2.2.1 = mH ∧ q.2.2.2.2.2.1 = hh ∧ q.2.2.2.2.2.2.2.2.1 = ba ∧ q.2.2.2.2.2.2.2.2.2.1 = bw ∧ q.2.2.2.2.2.2.2.2.2.2.2.2.2.2.2.2.2.2.2.2.2.2.2.2.2.2.2.2.2.2.2 = upd mRf 1 (mRf 1 + 1))
  ∨ (r.1 = 1 ∧ q.1 = r.2.2.2.2.2.2.1 ∧ q.2.2.2.2.1 = 0 ∧ q.2.2.2.2.2.2.1 = (-1) ∧ r.2.2.1 = 0 ∧ r.2.2.2.1 = (-1) ∧ 0 < r.2.2.2.2.2.2.1 ∧ zTN r.2.2.2.2.1 r.2.2.2.2.2.1 r.2.2.2.2.2.2.1 r.2.2.2.2.2.2.2.1 r.2.2.2.2.2.2.2.2.2.2.2.2.2.2.1 r.2.2.2.2.2.2.2.2.2.2.2.2.2.2.2.1 r.2.2.2.2.2.2.2.2.2.2.2.2.2.2.2.2.1 r.2.2.2.2.2.2.2.2.2.2.2.2.2.2.2.2.2.1 r.2.2.2.2.2.2.2.2.2.2.2.2.2.2.2.2.2.2.1 r.2.2.2.2.2.2.2.2.2.2.2.2.2.2.2.2.2.2.2.1 r.2.2.2.2.2.2.2.2.2.2.2.2.2.2.2.2.2.2.2.2.1 r.2.2.2.2.2.2.2.2.2.2.2.2.2.2.2.2.2.2.2.2.2.1 r.2.2.2.2.2.2.2.2.2.2.2.2.2.2.2.2.2.2.2.2.2.2.1 r.2.2.2.2.2.2.2.2.2.2.2.2.2.2.2.2.2.2.2.2.2.2.2.1 r.2.2.2.2.2.2.2.2.2.2.2.2.2.2.2.2.2.2.2.2.2.2.2.2.1 r.2.2.2.2.2.2.2.2.2.2.2.2.2.2.2.2.2.2.2.2.2.2.2.2.2 q.2.2.2.2.2.2.2.2.2.2.2.2.2.2.1 q.2.2.2.2.2.2.2.2.2.2.2.2.2.2.2.1 q.2.2.2.2.2.2.2.2.2.2.2.2.2.2.2.2.2.1 q.2.2.2.2.2.2.2.2.2.2.2.2.2.2.2.2.2.2.1 q.2.2.2.2.2.2.2.2.2.2.2.2.2.2.2.2.2.2.2.1 q.2.2.2.2.2.2.2.2.2.2.2.2.2.2.2.2.2.2.2.2.1 q.2.2.2.2.2.2.2.2.2.2.2.2.2.2.2.2.2.2.2.2.2.1 q.2.2.2.2.2.2.2.2.2.2.2.2.2.2.2.2.2.2.2.2.2.2.1 q.2.2.2.2.2.2.2.2.2.2.2.2.2.2.2.2.1 q.2.2.2.2.2.2.2.2.2.2.2.2.2.2.2.2.2.2.2.2.2.2.2.1 q.2.2.2.2.2.2.2.2.2.2.2.2.2.2.2.2.2.2.2.2.2.2.2.2.1 q.2.2.2.2.2.2.2.2.2.2.2.2.2.2.2.2.2.2.2.2.2.2.2.2.2.1 q.2.2.2.2.2.2.2.2.2.2.2.2.2.2.2.2.2.2.2.2.2.2.2.2.2.2.1 q.2.2.2.2.2.2.2.2.2.2.2.2.2.2.2.2.2.2.2.2.2.2.2.2.2.2.2.1 q.2.2.2.2.2.2.2.2.2.2.2.2.2.2.2.2.2.2.2.2.2.2.2.2.2.2.2.2.1 q.2.2.2.2.2.2.2.2.2.2.2.2.2.2.2.2.2.2.2.2.2.2.2.2.2.2.2.2.2.1 ∧ fn_X12_beginsChoice (q.2.2.2.2.2.2.2.2.2.2.2.2.2.2.2.1) mH (q.2.2.2.2.2.2.2.2.2.2.2.2.2.2.2.2.2.2.2.2.2.2.2.2.2.2.1) (q.2.2.2.2.2.2.2.2.2.2.2.2.2.2.2.2.2.2.2.2.2.2.2.2.2.2.2.1) = some (q.2.2.2.2.2.1, q.2.2.2.2.2.2.2.2.2.2.2.2.2.2.2.2.2.2.2.2.2.2.2.2.2.2.2.2.2.2.1) ∧ q.2.2.2.2.2.2.2.2.1 = (-1) ∧ q.2.2.2.2.2.2.2.2.2.1 = (-1) ∧ q.2.2.2.2.2.2.2.2.2.2.2.2.2.2.2.2.2.2.2.2.2.2.2.2.2.2.2.2.2.2.2 = mRf)
theorem zRef1b {f20 : Nat → Int32} {x : Int32 × (Nat → Int32)} (h : fn_X12_refuses 1 f20 = some x) : x.1 = (-1) ∧ x.2 = upd f20 1 (f20 1 + 1) := by
  unfold fn_X12_refuses at h
  obtain ⟨-, h⟩ := zg_s h
  rw [← Option.some.inj h, zn01.2]
  exact ⟨rfl, rfl⟩
set_option maxRecDepth 100000 in
set_option maxHeartbeats 4000000 in
theorem zStop12b {n v0_38 v0_58 v0_59 : Int32} {g tab f19 f20 : Nat → Int32} {n2 : Nat} {cnt a bg w wa : Int32} {wv : Int64} {mF mN mNF mNN mS mM mC mW mCst mO m1 m2 mX mG : Nat → Int32} {mA mB : Nat → Int64} {q : Int32 × Int32 × Int32 × Int64 × Int32 × Int32 × Int32 × Int32 × Int32 × Int32 × Int32 × Int32 × Int32 × Int32 × (Nat → Int32) × (Nat → Int32) × (Nat → Int32) × (Nat → Int32) × (Nat → Int32) × (Nat → Int32) × (Nat → Int32) × (Nat → Int32) × (Nat → Int32) × (Nat → Int32) × (Nat → Int32) × (Nat → Int32) × (Nat → Int32) × (Nat → Int32) × (Nat → Int64) × (Nat → Int64) × (Nat → Int32) × (Nat → Int32)} (hw : ¬ w = 0) (h : zl (zB12 n v0_38 v0_58 v0_59 g tab f19 f20) n2 (cnt, wv, a, bg, w, wa, mF, mNF, mS, mM, mC, mN, mNN, mO, m1, m2, mA, mB, mCst, mX, mW, mG) = some q) : q.1 = (-1) ∧ q.2.2.2.2.1 = w ∧ q.2.2.2.2.2.2.1 = wa ∧ zFR mF mN mNF mNN mS mM mC mW mCst mO m1 m2 mX mG mA mB q.2.2.2.2.2.2.2.2.2.2.2.2.2.2.1 q.2.2.2.2.2.2.2.2.2.2.2.2.2.2.2.1 q.2.2.2.2.2.2.2.2.2.2.2.2.2.2.2.2.2.1 q.2.2.2.2.2.2.2.2.2.2.2.2.2.2.2.2.2.2.1 q.2.2.2.2.2.2.2.2.2.2.2.2.2.2.2.2.2.2.2.1 q.2.2.2.2.2.2.2.2.2.2.2.2.2.2.2.2.2.2.2.2.1 q.2.2.2.2.2.2.2.2.2.2.2.2.2.2.2.2.2.2.2.2.2.1 q.2.2.2.2.2.2.2.2.2.2.2.2.2.2.2.2.2.2.2.2.2.2.1 q.2.2.2.2.2.2.2.2.2.2.2.2.2.2.2.2.1 q.2.2.2.2.2.2.2.2.2.2.2.2.2.2.2.2.2.2.2.2.2.2.2.1 q.2.2.2.2.2.2.2.2.2.2.2.2.2.2.2.2.2.2.2.2.2.2.2.2.1 q.2.2.2.2.2.2.2.2.2.2.2.2.2.2.2.2.2.2.2.2.2.2.2.2.2.1 q.2.2.2.2.2.2.2.2.2.2.2.2.2.2.2.2.2.2.2.2.2.2.2.2.2.2.1 q.2.2.2.2.2.2.2.2.2.2.2.2.2.2.2.2.2.2.2.2.2.2.2.2.2.2.2.1 q.2.2.2.2.2.2.2.2.2.2.2.2.2.2.2.2.2.2.2.2.2.2.2.2.2.2.2.2.1 q.2.2.2.2.2.2.2.2.2.2.2.2.2.2.2.2.2.2.2.2.2.2.2.2.2.2.2.2.2.1 ∧ q.2.2.2.2.2.2.2.2.2.2.2.2.2.2.2.2.2.2.2.2.2.2.2.2.2.2.2.2.2.2.1 = f19 ∧ q.2.2.2.2.2.1 = v0_38 ∧ q.2.2.2.2.2.2.2.2.1 = v0_58 ∧ q.2.2.2.2.2.2.2.2.2.1 = v0_59 ∧ q.2.2.2.2.2.2.2.2.2.2.2.2.2.2.2.2.2.2.2.2.2.2.2.2.2.2.2.2.2.2.2 = upd f20 1 (f20 1 + 1) := by
  cases n2 with
  | zero => exact (zl_0 h).elim
  | succ n2 =>
    have h := zl_s rfl h
    unfold zB12 at h
    simp only [zb_some, zj, zGw_n hw, if_true, if_neg hw] at h
    obtain ⟨x, hx, h⟩ := zb_s h
    have hx1 := zRef1b hx
    rw [← Option.some.inj h]
    exact ⟨hx1.1, rfl, rfl, zFR_rf, rfl, rfl, rfl, rfl, hx1.2⟩
set_option maxRecDepth 100000 in
set_option maxHeartbeats 8000000 in
theorem zLoop2 {n v0_38 v0_58 v0_59 : Int32} {f g own tab f19 f20 : Nat → Int32} {oF oN oNF oNN oS oM oC oW oCst oO o1 o2 oX oG : Nat → Int32} {oA oB : Nat → Int64} {r : Int32 × Int32 × Int32 × Int32 × Int32 × Int32 × Int32 × Int32 × Int32 × Int32 × Int32 × Int32 × Int32 × Int32 × (Nat → Int32) × (Nat → Int32) × (Nat → Int32) × (Nat → Int32) × (Nat → Int32) × (Nat → Int32) × (Nat → Int32) × (Nat → Int32) × (Nat → Int32) × (Nat → Int32) × (Nat → Int32) × (Nat → Int32)} {q : Int32 × Int32 × Int32 × Int64 × Int32 × Int32 × Int32 × Int32 × Int32 × Int32 × Int32 × Int32 × Int32 × Int32 × (Nat → Int32) × (Nat → Int32) × (Nat → Int32) × (Nat → Int32) × (Nat → Int32) × (Nat → Int32) × (Nat → Int32) × (Nat → Int32) × (Nat → Int32) × (Nat → Int32) × (Nat → Int32) × (Nat → Int32) × (Nat → Int32) × (Nat → Int32) × (Nat → Int64) × (Nat → Int64) × (Nat → Int32) × (Nat → Int32)} (hn : 0 ≤ n ∧ n ≤ 1200) (ht : zTp f g) (ho : ∀ w : Nat, w < 13 → own w = zOwT w) (hT : (∀ k : Nat, k < 71 → tab k = zTab k)) : ∀ (n1 n2 : Nat) (cnt got e k s v o a bg : Int32) (wv : Int64) (cF cc cN inp : Int32) (nF nN stp mst prc al made amt op fx jn lets : Nat → Int32) (mF mN mNF mNN mS mM mC mW mCst mO m1 m2 mX mG : Nat → Int32) (mA mB : Nat → Int64), (0 ≤ cnt ∧ cnt ≤ 40) → (0 ≤ a ∧ a ≤ n) → zTok n f g a e k s v o → zTS cF cc cN inp nF nN stp mst prc al made amt op fx jn lets mF mN mNF mNN mS mM mC mW mCst mO m1 m2 mX mG mA mB → zFR oF oN oNF oNN oS oM oC oW oCst oO o1 o2 oX oG oA oB mF mN mNF mNN mS mM mC mW mCst mO m1 m2 mX mG mA mB → zl (zB5 n n f own) n1 (cnt, got, 0, (-1), cF, cc, e, k, s, v, o, cN, inp, nF, stp, mst, prc, nN, op, fx, al, lets, jn, made, amt) = some r → zl (zB12 n v0_38 v0_58 v0_59 g tab f19 f20) n2 (cnt, wv, a, bg, 0, (-1), mF, mNF, mS, mM, mC, mN, mNN, mO, m1, m2, mA, mB, mCst, mX, mW, mG) = some q → zRR2 v0_38 v0_58 v0_59 f19 f20 oF oN oNF oNN oS oM oC oW oCst oO o1 o2 oX oG oA oB r q := by
  intro n1
  induction n1 with
  | zero => intro n2 cnt got e k s v o a bg wv cF cc cN inp nF nN stp mst prc al made amt op fx jn lets mF mN mNF mNN mS mM mC mW mCst mO m1 m2 mX mG mA mB _ _ _ _ _ h; exact (zl_0 h).elim
  | succ n1 ih =>
    intro n2 cnt got e k s v o a bg wv cF cc cN inp nF nN stp mst prc al made amt op fx jn lets mF mN mNF mNN mS mM mC mW mCst mO m1 m2 mX mG mA mB hc ha T hR hfr0 h1 h2
    cases n2 with
    | zero => exact (zl_0 h2).elim
    | succ n2 =>
      have h1 := zl_s rfl h1
      have h2 := zl_s rfl h2
      have hR0 := hR
      obtain ⟨hF, hN, hC, hI, hfm, hnu, hgr⟩ := hR
      have h10 : ¬ (1 : Int32) = 0 := by decide
      have h40 : ¬ 40 < cnt := by (first | ((try clear ht); (try clear ho); (try clear hT); grind) | grind)
      have hz0 := zTok_0 ht ha T
      have hb := zTok_b ha T
      unfold zB5 at h1
      unfold zB12 at h2
      simp only [zj, if_neg h40] at h1
      simp only [zb_some, zj, zGw_0, if_neg h10, zHereT hn.2 ha T] at h2
      by_cases hk : k = 0
      · rw [if_pos hk] at h1
        simp only [hz0.mpr hk, if_true, zn01.2, zn01.1] at h2
        have st5 : fn_X5_stopAt 4 n = some (0, 4, n) := rfl
        simp only [st5, zb_some, if_true, if_neg h10] at h1
        by_cases z : mF 1 = 0 ∨ mN 1 = 0
        · have e1 : r.1 = 0 ∧ r.2.2.1 = 4 ∧ r.2.2.2.1 = n := by
            by_cases z1 : cF ≤ 0
            · rw [if_pos z1] at h1
              rw [← Option.some.inj h1]
              exact ⟨rfl, rfl, rfl⟩
            · rw [if_neg z1, if_pos (by (first | ((try clear ht); (try clear ho); (try clear hT); (try clear hb); (try clear st5); grind) | grind))] at h1
              rw [← Option.some.inj h1]
              exact ⟨rfl, rfl, rfl⟩
          have h44 : ¬ (4 : Int32) = 0 := by decide
          have e2 : q.1 = (-1) ∧ q.2.2.2.2.1 = 4 ∧ q.2.2.2.2.2.2.1 = n ∧ zFR oF oN oNF oNN oS oM oC oW oCst oO o1 o2 oX oG oA oB q.2.2.2.2.2.2.2.2.2.2.2.2.2.2.1 q.2.2.2.2.2.2.2.2.2.2.2.2.2.2.2.1 q.2.2.2.2.2.2.2.2.2.2.2.2.2.2.2.2.2.1 q.2.2.2.2.2.2.2.2.2.2.2.2.2.2.2.2.2.2.1 q.2.2.2.2.2.2.2.2.2.2.2.2.2.2.2.2.2.2.2.1 q.2.2.2.2.2.2.2.2.2.2.2.2.2.2.2.2.2.2.2.2.1 q.2.2.2.2.2.2.2.2.2.2.2.2.2.2.2.2.2.2.2.2.2.1 q.2.2.2.2.2.2.2.2.2.2.2.2.2.2.2.2.2.2.2.2.2.2.1 q.2.2.2.2.2.2.2.2.2.2.2.2.2.2.2.2.1 q.2.2.2.2.2.2.2.2.2.2.2.2.2.2.2.2.2.2.2.2.2.2.2.1 q.2.2.2.2.2.2.2.2.2.2.2.2.2.2.2.2.2.2.2.2.2.2.2.2.1 q.2.2.2.2.2.2.2.2.2.2.2.2.2.2.2.2.2.2.2.2.2.2.2.2.2.1 q.2.2.2.2.2.2.2.2.2.2.2.2.2.2.2.2.2.2.2.2.2.2.2.2.2.2.1 q.2.2.2.2.2.2.2.2.2.2.2.2.2.2.2.2.2.2.2.2.2.2.2.2.2.2.2.1 q.2.2.2.2.2.2.2.2.2.2.2.2.2.2.2.2.2.2.2.2.2.2.2.2.2.2.2.2.1 q.2.2.2.2.2.2.2.2.2.2.2.2.2.2.2.2.2.2.2.2.2.2.2.2.2.2.2.2.2.1 ∧ q.2.2.2.2.2.2.2.2.2.2.2.2.2.2.2.2.2.2.2.2.2.2.2.2.2.2.2.2.2.2.1 = f19 ∧ q.2.2.2.2.2.1 = v0_38 ∧ q.2.2.2.2.2.2.2.2.1 = v0_58 ∧ q.2.2.2.2.2.2.2.2.2.1 = v0_59 ∧ q.2.2.2.2.2.2.2.2.2.2.2.2.2.2.2.2.2.2.2.2.2.2.2.2.2.2.2.2.2.2.2 = upd f20 1 (f20 1 + 1) := by
            by_cases z1 : mF 1 = 0
            · simp only [if_pos z1, zFl_0, zb_some, if_neg h44] at h2
              obtain ⟨x, hx, h2⟩ := zb_s h2
              have hx1 := zRef1b hx
              rw [← Option.some.inj h2]
              exact ⟨hx1.1, rfl, rfl, hfr0, rfl, rfl, rfl, rfl, hx1.2⟩
            · simp only [if_neg z1, if_pos (z.resolve_left z1), zFl_0, zb_some, if_neg h44] at h2
              obtain ⟨x, hx, h2⟩ := zb_s h2
              have hx1 := zRef1b hx
              rw [← Option.some.inj h2]
              exact ⟨hx1.1, rfl, rfl, hfr0, rfl, rfl, rfl, rfl, hx1.2⟩
          exact Or.inl ⟨e1.1, e2.1, e2.2.1.trans e1.2.1.symm, e2.2.2.1.trans e1.2.2.symm, e2.2.2.2⟩
        · have z1 : ¬ mF 1 = 0 := fun w => z (Or.inl w)
          have z2 : ¬ mN 1 = 0 := fun w => z (Or.inr w)
          rw [if_neg (by (first | ((try clear ht); (try clear ho); (try clear hT); (try clear h2); (try clear hb); (try clear st5); (try clear hx); grind) | grind)), if_neg (by (first | ((try clear ht); (try clear ho); (try clear hT); (try clear h2); (try clear hb); (try clear st5); (try clear hx); grind) | grind))] at h1
          simp only [if_neg z1, if_neg z2, if_true] at h2
          obtain ⟨x, hx, h2⟩ := zb_s h2
          obtain ⟨y, hy, h2⟩ := zb_s h2
          have htn := zTN_of hx hR0 z1 z2
          rw [← Option.some.inj h1, ← Option.some.inj h2]
          exact Or.inr ⟨rfl, htn.2.1.1, rfl, rfl, rfl, rfl, (show 0 < cN by (first | ((try clear ht); (try clear ho); (try clear hT); (try clear h2); (try clear hb); (try clear st5); (try clear hx); (try clear hy); grind) | grind)), htn, hy, rfl, rfl, rfl⟩
      · rw [if_neg hk] at h1
        have hk' : ¬ zB n g s = (-1) := fun w => hk (hz0.mp w)
        simp only [if_neg hk'] at h2
        obtain ⟨r0, hr0, q0, hq0, hs0, hlt⟩ := zStmt (p := cnt) (got := got) (fk := 0) (fp := -1) (bg := bg) (wa := -1) (wv0 := wv) hn.2 ⟨hb.1, hb.2.1⟩ ht ho hT (zTok_s T) hR0 hc
        simp only [hr0, zb_some] at h1
        simp only [hq0, zb_some] at h2
        rcases hs0 with ⟨g', y, z, b', wv', C, M, rfl, rfl, hy, hts, hfr⟩ | ⟨hst, hfr⟩
        · have hlt := hlt h10
          dsimp only at h1 h2
          rw [if_neg h10] at h1
          exact ih n2 _ _ _ _ _ _ _ _ _ _ _ _ _ _ _ _ _ _ _ _ _ _ _ _ _ _ _ _ _ _ _ _ _ _ _ _ _ _ _ _ _ _ ⟨by (first | ((try clear ht); (try clear ho); (try clear hT); (try clear h2); (try clear hb); (try clear st5); (try clear hx); grind) | grind), by (first | ((try clear ht); (try clear ho); (try clear hT); (try clear h2); (try clear hb); (try clear st5); (try clear hx); grind) | grind)⟩ hy.1 hy.2 hts (zFR_tr hfr0 hfr) h1 h2
        · rw [if_pos hst.1] at h1
          have e2 := zStop12b hst.2.1 h2
          rw [← Option.some.inj h1]
          exact Or.inl ⟨rfl, e2.1, e2.2.1.trans hst.2.2.1.symm, e2.2.2.1.trans hst.2.2.2.symm, zFR_tr (zFR_tr hfr0 hfr) e2.2.2.2.1, e2.2.2.2.2⟩
theorem zFR_0 {mF mN mNF mNN mS mM mC mW mCst mO m1 m2 mX mG : Nat → Int32} {mA mB : Nat → Int64} : zFR mF mN mNF mNN mS mM mC mW mCst mO m1 m2 mX mG mA mB (upd mF 1 0) (upd mN 1 0) mNF mNN mS mM mC mW (upd mCst 1 1) mO m1 m2 mX mG mA mB := ⟨rfl, rfl, (fun _ _ => rfl), (fun _ _ => rfl), (fun _ _ => rfl), (fun _ _ => rfl), (fun _ _ => rfl), (fun _ _ => rfl), rfl, (fun _ _ => rfl), (fun _ _ => rfl), (fun _ _ => rfl), (fun _ _ => rfl), (fun _ _ => rfl), (fun _ _ => rfl), (fun _ _ => rfl)⟩
/-- what task() leaves: nothing of a TASK, or one in both, settled -/
noncomputable def zTQ (rdy fo lr ba bw : Int32) (hand rf gof gld gfx rwd : Nat → Int32) (rlo rhi : Nat → Int64) (mHh mBa mBw : Int32) (mH mRf : Nat → Int32) (mF mN mNF mNN mS mM mC mW mCst mO m1 m2 mX mG : Nat → Int32) (mA mB : Nat → Int64) (x : Int32 × Int32 × Int32 × Int32 × Int32 × Int32 × Int32 × Int32 × Int32 × Int32 × Int32 × Int32 × Int32 × Int32 × Int32 × Int32 × Int32 × (Nat → Int32) × (Nat → Int32) × (Nat → Int32) × (Nat → Int32) × (Nat → Int32) × (Nat → Int32) × (Nat → Int32) × (Nat → Int32) × (Nat → Int32) × (Nat → Int32) × (Nat → Int32) × (Nat → Int32) × Int32 × Int32 × Int32 × (Nat → Int32) × (Nat → Int32) × (Nat → Int32) × (Nat → Int64) × (Nat → Int64) × (Nat → Int32) × (Nat → Int32) × Int32 × Int32 × Int32 × Int32 × Int32 × (Nat → Int32)) (y : Int32 × Int32 × Int32 × Int64 × Int32 × Int32 × Int32 × Int32 × Int32 × Int32 × Int32 × Int32 × Int32 × Int32 × (Nat → Int32) × (Nat → Int32) × (Nat → Int32) × (Nat → Int32) × (Nat → Int32) × (Nat → Int32) × (Nat → Int32) × (Nat → Int32) × (Nat → Int32) × (Nat → Int32) × (Nat → Int32) × (Nat → Int32) × (Nat → Int32) × (Nat → Int32) × (Nat → Int64) × (Nat → Int64) × (Nat → Int32) × (Nat → Int32)) : Prop :=
  (x.2.2.1 = 0 ∧ x.2.2.2.1 = 1 ∧ zFR mF mN mNF mNN mS mM mC mW mCst mO m1 m2 mX mG mA mB y.2.2.2.2.2.2.2.2.2.2.2.2.2.2.1 y.2.2.2.2.2.2.2.2.2.2.2.2.2.2.2.1 y.2.2.2.2.2.2.2.2.2.2.2.2.2.2.2.2.2.1 y.2.2.2.2.2.2.2.2.2.2.2.2.2.2.2.2.2.2.1 y.2.2.2.2.2.2.2.2.2.2.2.2.2.2.2.2.2.2.2.1 y.2.2.2.2.2.2.2.2.2.2.2.2.2.2.2.2.2.2.2.2.1 y.2.2.2.2.2.2.2.2.2.2.2.2.2.2.2.2.2.2.2.2.2.1 y.2.2.2.2.2.2.2.2.2.2.2.2.2.2.2.2.2.2.2.2.2.2.1 y.2.2.2.2.2.2.2.2.2.2.2.2.2.2.2.2.1 y.2.2.2.2.2.2.2.2.2.2.2.2.2.2.2.2.2.2.2.2.2.2.2.1 y.2.2.2.2.2.2.2.2.2.2.2.2.2.2.2.2.2.2.2.2.2.2.2.2.1 y.2.2.2.2.2.2.2.2.2.2.2.2.2.2.2.2.2.2.2.2.2.2.2.2.2.1 y.2.2.2.2.2.2.2.2.2.2.2.2.2.2.2.2.2.2.2.2.2.2.2.2.2.2.1 y.2.2.2.2.2.2.2.2.2.2.2.2.2.2.2.2.2.2.2.2.2.2.2.2.2.2.2.1 y.2.2.2.2.2.2.2.2.2.2.2.2.2.2.2.2.2.2.2.2.2.2.2.2.2.2.2.2.1 y.2.2.2.2.2.2.2.2.2.2.2.2.2.2.2.2.2.2.2.2.2.2.2.2.2.2.2.2.2.1 ∧ x.2.2.2.2.2.2.2.2.2.2.2.2.2.2.2.2.2.2.2.2.2.2.2.2.2.2.2.2.2.2.2.2.2.2.2.2.2.2.1 = hand ∧ y.2.2.2.2.2.2.2.2.2.2.2.2.2.2.2.2.2.2.2.2.2.2.2.2.2.2.2.2.2.2.1 = mH ∧ y.2.2.2.2.2.1 = mHh ∧ y.2.2.2.2.2.2.2.2.1 = mBa ∧ y.2.2.2.2.2.2.2.2.2.1 = mBw ∧ x.2.2.2.2.2.2.2.2.2.2.2.2.2.2.2.2.2.2.2.2.2.2.2.2.2.2.2.2.2.2.2.2.2.2.2.2.2.2.2.2.2.2.1 = ba ∧ x.2.2.2.2.2.2.2.2.2.2.2.2.2.2.2.2.2.2.2.2.2.2.2.2.2.2.2.2.2.2.2.2.2.2.2.2.2.2.2.2.2.2.2.1 = bw ∧ x.2.2.2.2.2.2.2.2.2.2.2.2.2.2.2.2.2.2.2.2.2.2.2.2.2.2.2.2.2.2.2.2.2.2.2.2.2.2.2.1 = rdy ∧ x.2.2.2.2.2.2.2.2.2.2.2.2.2.2.2.2.2.2.2.2.2.2.2.2.2.2.2.2.2.2.2.2.2.2.2.2.2.2.2.2.1 = fo ∧ x.2.2.2.2.2.2.2.2.2.2.2.2.2.2.2.2.2.2.2.2.2.2.2.2.2.2.2.2.2.2.2.2.2.2.2.2.2.2.2.2.2.1 = lr ∧ x.2.2.2.2.2.2.2.2.2.2.2.2.2.2.2.2.2.2.2.2.2.2.2.2.2.2.2.2.2.2.2.2.2.2.2.2.2.2.2.2.2.2.2.2 = upd rf 1 (rf 1 + 1) ∧ y.2.2.2.2.2.2.2.2.2.2.2.2.2.2.2.2.2.2.2.2.2.2.2.2.2.2.2.2.2.2.2 = upd mRf 1 (mRf 1 + 1))
  ∨ (x.2.2.1 = 1 ∧ x.2.2.2.1 = 0 ∧ 0 < x.2.2.2.2.2.2.2.2.2.1 ∧ zTN x.2.2.2.2.2.2.2.1 x.2.2.2.2.2.2.2.2.1 x.2.2.2.2.2.2.2.2.2.1 x.2.2.2.2.2.2.2.2.2.2.1 x.2.2.2.2.2.2.2.2.2.2.2.2.2.2.2.2.2.1 x.2.2.2.2.2.2.2.2.2.2.2.2.2.2.2.2.2.2.1 x.2.2.2.2.2.2.2.2.2.2.2.2.2.2.2.2.2.2.2.1 x.2.2.2.2.2.2.2.2.2.2.2.2.2.2.2.2.2.2.2.2.1 x.2.2.2.2.2.2.2.2.2.2.2.2.2.2.2.2.2.2.2.2.2.1 x.2.2.2.2.2.2.2.2.2.2.2.2.2.2.2.2.2.2.2.2.2.2.1 x.2.2.2.2.2.2.2.2.2.2.2.2.2.2.2.2.2.2.2.2.2.2.2.1 x.2.2.2.2.2.2.2.2.2.2.2.2.2.2.2.2.2.2.2.2.2.2.2.2.1 x.2.2.2.2.2.2.2.2.2.2.2.2.2.2.2.2.2.2.2.2.2.2.2.2.2.1 x.2.2.2.2.2.2.2.2.2.2.2.2.2.2.2.2.2.2.2.2.2.2.2.2.2.2.1 x.2.2.2.2.2.2.2.2.2.2.2.2.2.2.2.2.2.2.2.2.2.2.2.2.2.2.2.1 x.2.2.2.2.2.2.2.2.2.2.2.2.2.2.2.2.2.2.2.2.2.2.2.2.2.2.2.2.1 y.2.2.2.2.2.2.2.2.2.2.2.2.2.2.1 y.2.2.2.2.2.2.2.2.2.2.2.2.2.2.2.1 y.2.2.2.2.2.2.2.2.2.2.2.2.2.2.2.2.2.1 y.2.2.2.2.2.2.2.2.2.2.2.2.2.2.2.2.2.2.1 y.2.2.2.2.2.2.2.2.2.2.2.2.2.2.2.2.2.2.2.1 y.2.2.2.2.2.2.2.2.2.2.2.2.2.2.2.2.2.2.2.2.1 y.2.2.2.2.2.2.2.2.2.2.2.2.2.2.2.2.2.2.2.2.2.1 y.2.2.2.2.2.2.2.2.2.2.2.2.2.2.2.2.2.2.2.2.2.2.1 y.2.2.2.2.2.2.2.2.2.2.2.2.2.2.2.2.1 y.2.2.2.2.2.2.2.2.2.2.2.2.2.2.2.2.2.2.2.2.2.2.2.1 y.2.2.2.2.2.2.2.2.2.2.2.2.2.2.2.2.2.2.2.2.2.2.2.2.1 y.2.2.2.2.2.2.2.2.2.2.2.2.2.2.2.2.2.2.2.2.2.2.2.2.2.1 y.2.2.2.2.2.2.2.2.2.2.2.2.2.2.2.2.2.2.2.2.2.2.2.2.2.2.1 y.2.2.2.2.2.2.2.2.2.2.2.2.2.2.2.2.2.2.2.2.2.2.2.2.2.2.2.1 y.2.2.2.2.2.2.2.2.2.2.2.2.2.2.2.2.2.2.2.2.2.2.2.2.2.2.2.2.1 y.2.2.2.2.2.2.2.2.2.2.2.2.2.2.2.2.2.2.2.2.2.2.2.2.2.2.2.2.2.1 ∧ fn_X9_settle (x.2.2.2.2.2.2.2.2.2.1) (x.2.2.2.2.2.2.2.2.2.2.2.2.2.2.2.2.2.2.2.2.2.2.2.2.2.2.2.1) gof gld gfx (x.2.2.2.2.2.2.2.2.2.2.2.2.2.2.2.2.2.2.2.2.2.2.2.2.2.2.1) (x.2.2.2.2.2.2.2.2.2.2.2.2.2.2.2.2.2.2.2.2.2.2.2.2.2.1) (x.2.2.2.2.2.2.2.2.2.2.2.2.2.2.2.2.2.2.2.2.2.2.2.1) (x.2.2.2.2.2.2.2.2.2.2.2.2.2.2.2.2.2.2.2.2.2.2.2.2.1) rlo rhi rwd = some (x.2.2.2.2.2.2.2.2.2.2.2.2.2.2.2.2.2.2.2.2.2.2.2.2.2.2.2.2.2.1, x.2.2.2.2.2.2.2.2.2.2.2.2.2.2.2.2.2.2.2.2.2.2.2.2.2.2.2.2.2.2.1, x.2.2.2.2.2.2.2.2.2.2.2.2.2.2.2.2.2.2.2.2.2.2.2.2.2.2.2.2.2.2.2.1, x.2.2.2.2.2.2.2.2.2.2.2.2.2.2.2.2.2.2.2.2.2.2.2.2.2.2.2.2.2.2.2.2.1, x.2.2.2.2.2.2.2.2.2.2.2.2.2.2.2.2.2.2.2.2.2.2.2.2.2.2.2.2.2.2.2.2.2.1, x.2.2.2.2.2.2.2.2.2.2.2.2.2.2.2.2.2.2.2.2.2.2.2.2.2.2.2.2.2.2.2.2.2.2.1, x.2.2.2.2.2.2.2.2.2.2.2.2.2.2.2.2.2.2.2.2.2.2.2.2.2.2.2.2.2.2.2.2.2.2.2.1, x.2.2.2.2.2.2.2.2.2.2.2.2.2.2.2.2.2.2.2.2.2.2.2.2.2.2.2.2.2.2.2.2.2.2.2.2.1, x.2.2.2.2.2.2.2.2.2.2.2.2.2.2.2.2.2.2.2.2.2.2.2.2.2.2.2.2.2.2.2.2.2.2.2.2.2.1) ∧ fn_X2_fillFree 0 x.2.2.2.2.2.2.2.2.2.2.2.2.2.2.2.2.2.2.2.2.2.2.2.2.2.2.2.2.2.1 hand x.2.2.2.2.2.2.2.2.2.2.2.2.2.2.2.2.2.2.2.2.2.2.2.2.2.2.2.2.2.2.2.2.2.2.1 = some x.2.2.2.2.2.2.2.2.2.2.2.2.2.2.2.2.2.2.2.2.2.2.2.2.2.2.2.2.2.2.2.2.2.2.2.2.2.2.1 ∧ fn_X12_beginsChoice (y.2.2.2.2.2.2.2.2.2.2.2.2.2.2.2.1) mH (y.2.2.2.2.2.2.2.2.2.2.2.2.2.2.2.2.2.2.2.2.2.2.2.2.2.2.1) (y.2.2.2.2.2.2.2.2.2.2.2.2.2.2.2.2.2.2.2.2.2.2.2.2.2.2.2.1) = some (y.2.2.2.2.2.1, y.2.2.2.2.2.2.2.2.2.2.2.2.2.2.2.2.2.2.2.2.2.2.2.2.2.2.2.2.2.2.1) ∧ y.2.2.2.2.2.2.2.2.1 = (-1) ∧ y.2.2.2.2.2.2.2.2.2.1 = (-1) ∧ x.2.2.2.2.2.2.2.2.2.2.2.2.2.2.2.2.2.2.2.2.2.2.2.2.2.2.2.2.2.2.2.2.2.2.2.2.2.2.2.2.2.2.1 = (-1) ∧ x.2.2.2.2.2.2.2.2.2.2.2.2.2.2.2.2.2.2.2.2.2.2.2.2.2.2.2.2.2.2.2.2.2.2.2.2.2.2.2.2.2.2.2.1 = (-1) ∧ x.2.2.2.2.2.2.2.2.2.2.2.2.2.2.2.2.2.2.2.2.2.2.2.2.2.2.2.2.2.2.2.2.2.2.2.2.2.2.2.1 = 0 ∧ x.2.2.2.2.2.2.2.2.2.2.2.2.2.2.2.2.2.2.2.2.2.2.2.2.2.2.2.2.2.2.2.2.2.2.2.2.2.2.2.2.1 = (-1) ∧ x.2.2.2.2.2.2.2.2.2.2.2.2.2.2.2.2.2.2.2.2.2.2.2.2.2.2.2.2.2.2.2.2.2.2.2.2.2.2.2.2.2.1 = 0 ∧ x.2.2.2.2.2.2.2.2.2.2.2.2.2.2.2.2.2.2.2.2.2.2.2.2.2.2.2.2.2.2.2.2.2.2.2.2.2.2.2.2.2.2.2.2 = rf ∧ y.2.2.2.2.2.2.2.2.2.2.2.2.2.2.2.2.2.2.2.2.2.2.2.2.2.2.2.2.2.2.2 = mRf)
set_option maxRecDepth 100000 in
set_option maxHeartbeats 4000000 in
theorem zTaskEq2 {gc gfr gcl mHh mBa mBw mBg : Int32} {nF nN stp mst prc al made amt op fx jn lets gof gfx gld rwd hand mF mN mCst mNF mNN mS mM mC mW mO m1 m2 mX mG mT tab mH mRf rf : Nat → Int32} {rlo rhi mA mB : Nat → Int64} {mWv : Int64} {u w gt rdy fo lr ba bw : Int32} {tp own : Nat → Int32} {x : Int32 × Int32 × Int32 × Int32 × Int32 × Int32 × Int32 × Int32 × Int32 × Int32 × Int32 × Int32 × Int32 × Int32 × Int32 × Int32 × Int32 × (Nat → Int32) × (Nat → Int32) × (Nat → Int32) × (Nat → Int32) × (Nat → Int32) × (Nat → Int32) × (Nat → Int32) × (Nat → Int32) × (Nat → Int32) × (Nat → Int32) × (Nat → Int32) × (Nat → Int32) × Int32 × Int32 × Int32 × (Nat → Int32) × (Nat → Int32) × (Nat → Int32) × (Nat → Int64) × (Nat → Int64) × (Nat → Int32) × (Nat → Int32) × Int32 × Int32 × Int32 × Int32 × Int32 × (Nat → Int32)} {y : Int32 × Int32 × Int32 × Int64 × Int32 × Int32 × Int32 × Int32 × Int32 × Int32 × Int32 × Int32 × Int32 × Int32 × (Nat → Int32) × (Nat → Int32) × (Nat → Int32) × (Nat → Int32) × (Nat → Int32) × (Nat → Int32) × (Nat → Int32) × (Nat → Int32) × (Nat → Int32) × (Nat → Int32) × (Nat → Int32) × (Nat → Int32) × (Nat → Int32) × (Nat → Int32) × (Nat → Int64) × (Nat → Int64) × (Nat → Int32) × (Nat → Int32)} (hl : u = w) (hu : 0 ≤ u ∧ u ≤ 1200) (ht : zTp tp mT) (ho : ∀ w : Nat, w < 13 → own w = zOwT w) (hT : (∀ k : Nat, k < 71 → tab k = zTab k)) (h1 : fn_X11_task u gt tp own nF nN stp mst prc al made amt op fx jn lets gc gfr gcl gof gld gfx rlo rhi rwd hand rdy fo lr ba bw rf = some x) (h2 : fn_X12_task w mBg mWv mHh mBa mBw mF mN mCst mT tab mNF mNN mS mM mC mW mO m1 m2 mX mG mA mB mH mRf = some y) : x.1 = y.1 ∧ x.2.2.2.2.2.1 = y.2.2.2.2.1 ∧ x.2.2.2.2.2.2.1 = y.2.2.2.2.2.2.1 ∧ zTQ rdy fo lr ba bw hand rf gof gld gfx rwd rlo rhi mHh mBa mBw mH mRf mF mN mNF mNN mS mM mC mW mCst mO m1 m2 mX mG mA mB x y := by
  subst hl
  unfold fn_X11_task at h1
  obtain ⟨r, hr, h1⟩ := zb_s h1
  have key : zRR2 mHh mBa mBw mH mRf mF mN mNF mNN mS mM mC mW mCst mO m1 m2 mX mG mA mB r y := by
    unfold fn_X5_read at hr
    have e9 : fn_X9_clear = some (0, 1, 0, 0) := rfl
    simp only [e9, zb_some] at hr
    obtain ⟨z, hz, hr⟩ := zb_s hr
    unfold fn_X10_open at hz
    have hx : (if 0 < (if 1200 < u then 1200 else u) then (if 1200 < u then 1200 else u) else 0) = u := by (first | ((try clear ht); (try clear ho); (try clear hT); (try clear h1); (try clear h2); (try clear hr); (try clear e9); (try clear hz); grind) | grind)
    simp only [zn, hx] at hz
    obtain ⟨t, hadv, hT1⟩ := zAdv (n := u) (a := 0) (k0 := 0) hu.2 ⟨by decide, hu.1⟩ ht ho ⟨fun q => by (first | ((try clear ht); (try clear ho); (try clear hT); (try clear h1); (try clear h2); (try clear hr); (try clear e9); (try clear hz); grind) | grind), fun q => by rw [zK_ahead (0 - 1) (by decide)] at q; (first | ((try clear ht); (try clear ho); (try clear hT); (try clear h1); (try clear h2); (try clear hr); (try clear e9); (try clear hz); grind) | grind)⟩
    rw [hadv] at hz
    simp only [zb_some] at hz
    rw [← Option.some.inj hz] at hr
    dsimp only at hr
    unfold fn_X12_task at h2
    rw [zn01.2] at h2
    exact zLoop2 hu ht ho hT _ _ _ _ _ _ _ _ _ _ _ _ _ _ _ _ _ _ _ _ _ _ _ _ _ _ _ _ _ _ _ _ _ _ _ _ _ _ _ _ _ _ _ _ ⟨by decide, by decide⟩ ⟨by decide, hu.1⟩ hT1 zTS_0 zFR_0 hr h2
  rcases key with ⟨k1, k2, k3, k4, k5⟩ | ⟨k1, k2, k3, k4, k5, k6, k7, k8, k9, k10, k11, k12⟩
  · rw [if_pos k1] at h1
    obtain ⟨z, hz, h1⟩ := zb_s h1
    unfold fn_X11_refuse at hz
    rw [if_neg (by decide), if_neg (by decide)] at hz
    obtain ⟨-, hz⟩ := zg_s hz
    rw [zn01.2] at hz
    rw [← Option.some.inj h1, ← Option.some.inj hz]
    exact ⟨k2.symm, k3.symm, k4.symm, Or.inl ⟨rfl, rfl, k5.1, rfl, k5.2.1, k5.2.2.1, k5.2.2.2.1, k5.2.2.2.2.1, rfl, rfl, rfl, rfl, rfl, rfl, k5.2.2.2.2.2⟩⟩
  · rw [if_neg (by rw [k1]; decide)] at h1
    obtain ⟨z1, hz1, h1⟩ := zb_s h1
    obtain ⟨z2, hz2, h1⟩ := zb_s h1
    have e3 : fn_X1_forget = some (0, -1) := rfl
    have e4 : fn_X3_forget = some 0 := rfl
    have e5 : fn_X0_forget = some (-1, -1) := rfl
    simp only [e3, e4, e5, zb_some] at h1
    rw [← Option.some.inj h1]
    exact ⟨k2.symm, k5.trans k3.symm, k6.trans k4.symm, Or.inr ⟨rfl, rfl, k7, k8, hz1, hz2, k9, k10, k11, rfl, rfl, rfl, rfl, rfl, rfl, k12⟩⟩
/-! the tape's length: class and reference side by side -/
theorem zeq0 {a b : Int32} (h1 : a = 0) (h2 : b = 0) : a = b := h1.trans h2.symm
noncomputable def zPB (p : Int32) (s : Int32 × Int32 × (Nat → Int32)) (back : (Int32 × Int32 × (Nat → Int32)) → Option (Int32 × (Nat → Int32))) : Option (Int32 × (Nat → Int32)) := (if s.1 < 0 then (some (s.2.1, s.2.2)) else (if 1200 ≤ s.2.1 then (back ((s.1 + (-8)), s.2.1, s.2.2)) else (zg s.2.1 1200 (zn (upd s.2.2 s.2.1.toNatClampNeg (vp_nar .byte (p >>> (s.1 &&& 31)).toInt8.toInt32)) (fun g => (back ((s.1 + (-8)), (s.2.1 + 1), g)))))))
theorem zPB_go {p s l : Int32} {f : Nat → Int32} {n : Nat} {o : Int32 × (Nat → Int32)} (h : zl (zPB p) (n + 1) (s, l, f) = some o) (hs : ¬ s < 0) (hl : ¬ 1200 ≤ l) : ∃ g, zl (zPB p) n (s + (-8), l + 1, g) = some o := by
  have h : (if s < 0 then (some (l, f)) else (if 1200 ≤ l then (zl (zPB p) n ((s + (-8)), l, f)) else (zg l 1200 (zn (upd f l.toNatClampNeg (vp_nar .byte (p >>> (s &&& 31)).toInt8.toInt32)) (fun g => (zl (zPB p) n ((s + (-8)), (l + 1), g))))))) = some o := h
  rw [if_neg hs, if_neg hl] at h
  obtain ⟨-, h⟩ := zg_s h
  exact ⟨_, h⟩
theorem zPB_end {p s l : Int32} {f : Nat → Int32} {n : Nat} {o : Int32 × (Nat → Int32)} (h : zl (zPB p) (n + 1) (s, l, f) = some o) (hs : s < 0) : o.1 = l := by
  have h : (if s < 0 then (some (l, f)) else (if 1200 ≤ l then (zl (zPB p) n ((s + (-8)), l, f)) else (zg l 1200 (zn (upd f l.toNatClampNeg (vp_nar .byte (p >>> (s &&& 31)).toInt8.toInt32)) (fun g => (zl (zPB p) n ((s + (-8)), (l + 1), g))))))) = some o := h
  rw [if_pos hs] at h
  rw [← Option.some.inj h]
theorem zputlen {p v : Int32} {f : Nat → Int32} {o : Int32 × (Nat → Int32)} (h : fn_X11_putBytes p v f = some o) (h0 : 0 ≤ v) (h1 : v ≤ 1196) : o.1 = v + 4 := by
  have h : zl (zPB p) (99995 + 1 + 1 + 1 + 1 + 1) (24, v, f) = some o := h
  obtain ⟨g1, h⟩ := zPB_go h (by decide +kernel) (by lia)
  obtain ⟨g2, h⟩ := zPB_go h (by decide +kernel) (by lia)
  obtain ⟨g3, h⟩ := zPB_go h (by decide +kernel) (by lia)
  obtain ⟨g4, h⟩ := zPB_go h (by decide +kernel) (by lia)
  have e := zPB_end h (by decide +kernel)
  rw [e]
  lia
noncomputable def zLB (p v : Int32) (s : Int32 × (Nat → Int32)) (back : (Int32 × (Nat → Int32)) → Option (Int32 × (Nat → Int32))) : Option (Int32 × (Nat → Int32)) := (if 4 ≤ s.1 then (some ((v + 4), s.2)) else (zg (v + s.1) 1200 (zn (upd s.2 (v + s.1).toNatClampNeg ((p >>> ((24 - (8 * s.1)) &&& 31)) &&& 255)) (fun g => (back ((s.1 + 1), g))))))
theorem zlayslen' (p v : Int32) : ∀ (n : Nat) (s o : Int32 × (Nat → Int32)), zl (zLB p v) n s = some o → o.1 = v + 4 := by
  intro n
  induction n with
  | zero =>
    intro s o h
    exact (zl_0 h).elim
  | succ n ih =>
    intro s o h
    have h : (if 4 ≤ s.1 then (some ((v + 4), s.2)) else (zg (v + s.1) 1200 (zn (upd s.2 (v + s.1).toNatClampNeg ((p >>> ((24 - (8 * s.1)) &&& 31)) &&& 255)) (fun g => (zl (zLB p v) n ((s.1 + 1), g)))))) = some o := h
    by_cases c : 4 ≤ s.1
    · rw [if_pos c] at h
      rw [← Option.some.inj h]
    · rw [if_neg c] at h
      obtain ⟨-, h⟩ := zg_s h
      exact ih _ _ h
theorem zlayslen {p v : Int32} {f : Nat → Int32} {o : Int32 × (Nat → Int32)} (h : fn_X12_lays p v f = some o) : o.1 = v + 4 := zlayslen' p v 100000 (0, f) o h
theorem zeq_feed {p1 p2 p3 p4 p5 v w : Int32} {f1 f2 g1 g2 : Nat → Int32} {o o' : Int32 × Int32 × (Nat → Int32) × (Nat → Int32)} (e : v = w) (hv : 0 ≤ v ∧ v ≤ 1200) (h1 : fn_X11_feed p1 p2 p3 p4 p5 v f1 f2 = some o) (h2 : fn_X12_feed p1 p2 p3 p4 p5 w g1 g2 = some o') : o.1 = o'.1 ∧ o.2.1 = o'.2.1 := by
  subst e
  obtain ⟨hv1, hv2⟩ := hv
  unfold fn_X11_feed at h1
  unfold fn_X12_feed at h2
  by_cases c : v ≤ 1180
  · rw [if_pos c] at h1
    rw [if_pos (by lia)] at h2
    obtain ⟨a1, e1, h1⟩ := zb_s h1
    obtain ⟨a2, e2, h1⟩ := zb_s h1
    obtain ⟨a3, e3, h1⟩ := zb_s h1
    obtain ⟨a4, e4, h1⟩ := zb_s h1
    obtain ⟨a5, e5, h1⟩ := zb_s h1
    obtain ⟨b1, d1, h2⟩ := zb_s h2
    obtain ⟨b2, d2, h2⟩ := zb_s h2
    obtain ⟨b3, d3, h2⟩ := zb_s h2
    obtain ⟨b4, d4, h2⟩ := zb_s h2
    obtain ⟨b5, d5, h2⟩ := zb_s h2
    have q1 := zputlen e1 hv1 (by lia)
    have q2 := zputlen e2 (by lia) (by lia)
    have q3 := zputlen e3 (by lia) (by lia)
    have q4 := zputlen e4 (by lia) (by lia)
    have q5 := zputlen e5 (by lia) (by lia)
    have r1 := zlayslen d1
    have r2 := zlayslen d2
    have r3 := zlayslen d3
    have r4 := zlayslen d4
    have r5 := zlayslen d5
    have t1 : a5.1 = v + 20 := by lia
    have t2 : b5.1 = v + 20 := by lia
    rw [← Option.some.inj h1, ← Option.some.inj h2]
    exact ⟨t1.trans t2.symm, t1.trans t2.symm⟩
  · rw [if_neg c] at h1
    rw [if_neg (by lia)] at h2
    obtain ⟨a1, e1, h1⟩ := zb_s h1
    obtain ⟨b1, d1, h2⟩ := zb_s h2
    unfold fn_X11_refuse at e1
    rw [if_neg (by decide +kernel), if_neg (by decide +kernel)] at e1
    obtain ⟨-, e1⟩ := zg_s e1
    unfold fn_X12_refuses at d1
    obtain ⟨-, d1⟩ := zg_s d1
    rw [← Option.some.inj h1, ← Option.some.inj h2, ← Option.some.inj e1, ← Option.some.inj d1]
    exact ⟨rfl, rfl⟩
theorem zeq_end {p v w : Int32} {f g : Nat → Int32} {o o' : Int32 × Int32 × (Nat → Int32)} (e : v = w) (_hv : 0 ≤ v ∧ v ≤ 1200) (h1 : fn_X11_end p v f = some o) (h2 : fn_X12_end p w g = some o') : o.1 = o'.1 ∧ o.2.1 = o'.2.1 := by
  subst e
  unfold fn_X11_end at h1
  unfold fn_X12_end at h2
  by_cases c : p < 0
  · rw [if_pos c] at h1 h2
    obtain ⟨a1, e1, h1⟩ := zb_s h1
    obtain ⟨b1, d1, h2⟩ := zb_s h2
    unfold fn_X12_isRefused at d1
    obtain ⟨-, d1⟩ := zg_s d1
    rw [← Option.some.inj h1, ← Option.some.inj h2, ← Option.some.inj d1]
    exact ⟨rfl, rfl⟩
  · rw [if_neg c] at h1 h2
    by_cases c2 : p ≤ v
    · rw [if_pos c2] at h1 h2
      rw [← Option.some.inj h1, ← Option.some.inj h2]
      exact ⟨rfl, rfl⟩
    · rw [if_neg c2] at h1 h2
      obtain ⟨a1, e1, h1⟩ := zb_s h1
      obtain ⟨b1, d1, h2⟩ := zb_s h2
      unfold fn_X12_isRefused at d1
      obtain ⟨-, d1⟩ := zg_s d1
      rw [← Option.some.inj h1, ← Option.some.inj h2, ← Option.some.inj d1]
      exact ⟨rfl, rfl⟩
theorem zeq_fault {p a b c d : Int32} {o o' : Int32} (e1 : a = c) (e2 : b = d) (h1 : fn_X11_fault p a b = some o) (h2 : fn_X12_fault p c d = some o') : o = o' := by
  subst e1
  subst e2
  unfold fn_X11_fault at h1
  unfold fn_X12_fault at h2
  (first | ((try clear h1); (try clear h2); grind) | grind)
theorem bp_b (x : Int32) : x.toInt8.toInt32 &&& 255 = x &&& 255 := by
  apply Int32.toBitVec_inj.mp
  rw [Int32.toBitVec_and, Int32.toBitVec_and, Int8.toBitVec_toInt32, Int32.toBitVec_toInt8]
  apply BitVec.eq_of_getLsbD_eq
  intro i hi
  rw [BitVec.getLsbD_and, BitVec.getLsbD_and]
  have hm : ∀ i < 32, 8 ≤ i → (255 : Int32).toBitVec.getLsbD i = false := by decide
  rcases Nat.lt_or_ge i 8 with z | z
  · rw [BitVec.getLsbD_signExtend, BitVec.getLsbD_signExtend, if_pos z, if_pos hi]
    simp only [z, hi, decide_true, Bool.true_and]
  · rw [hm i hi z]; simp
/-! the tape's bytes: class and reference side by side -/
theorem zByte (x : Int32) : (-128) ≤ x.toInt8.toInt32 ∧ x.toInt8.toInt32 ≤ 127 ∧ (x &&& 255) = (if x.toInt8.toInt32 < 0 then x.toInt8.toInt32 + 256 else x.toInt8.toInt32) := by
  rw [← bp_b x]
  generalize x.toInt8 = t
  have h : ∀ n : Nat, n < 256 → (-128) ≤ (Int8.ofNat n).toInt32 ∧ (Int8.ofNat n).toInt32 ≤ 127 ∧ ((Int8.ofNat n).toInt32 &&& 255) = (if (Int8.ofNat n).toInt32 < 0 then (Int8.ofNat n).toInt32 + 256 else (Int8.ofNat n).toInt32) := by decide +kernel
  have e : t = Int8.ofNat t.toBitVec.toNat := by
    apply Int8.toBitVec.inj
    simp
  rw [e]
  exact h _ t.toBitVec.isLt
theorem zByte' (x : Int32) : (-128) ≤ vp_nar .byte x.toInt8.toInt32 ∧ vp_nar .byte x.toInt8.toInt32 ≤ 127 ∧ (x &&& 255) = (if vp_nar .byte x.toInt8.toInt32 < 0 then vp_nar .byte x.toInt8.toInt32 + 256 else vp_nar .byte x.toInt8.toInt32) := by
  rw [pk_vb]
  exact zByte x
theorem zTp_up {f g : Nat → Int32} {i : Nat} {x y : Int32} (h : zTp f g) (hx : (-128) ≤ x ∧ x ≤ 127 ∧ y = if x < 0 then x + 256 else x) : zTp (upd f i x) (upd g i y) := by
  intro j
  show (-128) ≤ (if j = i then x else f j) ∧ (if j = i then x else f j) ≤ 127 ∧ (if j = i then y else g j) = (if (if j = i then x else f j) < 0 then (if j = i then x else f j) + 256 else (if j = i then x else f j))
  by_cases c : j = i
  · rw [if_pos c, if_pos c]
    exact hx
  · rw [if_neg c, if_neg c]
    exact h j
theorem zPB_go' {p s l : Int32} {f : Nat → Int32} {n : Nat} {o : Int32 × (Nat → Int32)} (h : zl (zPB p) (n + 1) (s, l, f) = some o) (hs : ¬ s < 0) (hl : ¬ 1200 ≤ l) : zl (zPB p) n (s + (-8), l + 1, upd f l.toNatClampNeg (vp_nar .byte (p >>> (s &&& 31)).toInt8.toInt32)) = some o := by
  have h : (if s < 0 then (some (l, f)) else (if 1200 ≤ l then (zl (zPB p) n ((s + (-8)), l, f)) else (zg l 1200 (zn (upd f l.toNatClampNeg (vp_nar .byte (p >>> (s &&& 31)).toInt8.toInt32)) (fun g => (zl (zPB p) n ((s + (-8)), (l + 1), g))))))) = some o := h
  rw [if_neg hs, if_neg hl] at h
  obtain ⟨-, h⟩ := zg_s h
  exact h
theorem zPB_end' {p s l : Int32} {f : Nat → Int32} {n : Nat} {o : Int32 × (Nat → Int32)} (h : zl (zPB p) (n + 1) (s, l, f) = some o) (hs : s < 0) : o.2 = f := by
  have h : (if s < 0 then (some (l, f)) else (if 1200 ≤ l then (zl (zPB p) n ((s + (-8)), l, f)) else (zg l 1200 (zn (upd f l.toNatClampNeg (vp_nar .byte (p >>> (s &&& 31)).toInt8.toInt32)) (fun g => (zl (zPB p) n ((s + (-8)), (l + 1), g))))))) = some o := h
  rw [if_pos hs] at h
  rw [← Option.some.inj h]
theorem zLB_go {p v k : Int32} {f : Nat → Int32} {n : Nat} {o : Int32 × (Nat → Int32)} (h : zl (zLB p v) (n + 1) (k, f) = some o) (hk : ¬ 4 ≤ k) : zl (zLB p v) n (k + 1, upd f (v + k).toNatClampNeg ((p >>> ((24 - (8 * k)) &&& 31)) &&& 255)) = some o := by
  have h : (if 4 ≤ k then (some ((v + 4), f)) else (zg (v + k) 1200 (zn (upd f (v + k).toNatClampNeg ((p >>> ((24 - (8 * k)) &&& 31)) &&& 255)) (fun g => (zl (zLB p v) n ((k + 1), g)))))) = some o := h
  rw [if_neg hk] at h
  obtain ⟨-, h⟩ := zg_s h
  exact h
theorem zLB_end {p v k : Int32} {f : Nat → Int32} {n : Nat} {o : Int32 × (Nat → Int32)} (h : zl (zLB p v) (n + 1) (k, f) = some o) (hk : 4 ≤ k) : o.2 = f := by
  have h : (if 4 ≤ k then (some ((v + 4), f)) else (zg (v + k) 1200 (zn (upd f (v + k).toNatClampNeg ((p >>> ((24 - (8 * k)) &&& 31)) &&& 255)) (fun g => (zl (zLB p v) n ((k + 1), g)))))) = some o := h
  rw [if_pos hk] at h
  rw [← Option.some.inj h]
theorem zTp_put {p v : Int32} {f g : Nat → Int32} {o o' : Int32 × (Nat → Int32)} (ht : zTp f g) (h0 : 0 ≤ v) (h1 : v ≤ 1196) (e1 : fn_X11_putBytes p v f = some o) (e2 : fn_X12_lays p v g = some o') : zTp o.2 o'.2 := by
  have h : zl (zPB p) (99995 + 1 + 1 + 1 + 1 + 1) (24, v, f) = some o := e1
  have h := zPB_go' h (by decide +kernel) (by lia)
  have h := zPB_go' h (by decide +kernel) (by lia)
  have h := zPB_go' h (by decide +kernel) (by lia)
  have h := zPB_go' h (by decide +kernel) (by lia)
  have h := zPB_end' h (by decide +kernel)
  have k : zl (zLB p v) (99995 + 1 + 1 + 1 + 1 + 1) (0, g) = some o' := e2
  have k := zLB_go k (by decide +kernel)
  have k := zLB_go k (by decide +kernel)
  have k := zLB_go k (by decide +kernel)
  have k := zLB_go k (by decide +kernel)
  have k := zLB_end k (by decide +kernel)
  rw [h, k]
  have i0 : v + 0 = v := by (first | ((try clear ht); (try clear e1); (try clear e2); grind) | grind)
  have i1 : v + (0 + 1) = v + 1 := by (first | ((try clear ht); (try clear e1); (try clear e2); grind) | grind)
  have i2 : v + (0 + 1 + 1) = v + 1 + 1 := by (first | ((try clear ht); (try clear e1); (try clear e2); grind) | grind)
  have i3 : v + (0 + 1 + 1 + 1) = v + 1 + 1 + 1 := by (first | ((try clear ht); (try clear e1); (try clear e2); grind) | grind)
  have s0 : ((24 - (8 * 0)) &&& 31 : Int32) = 24 &&& 31 := by decide +kernel
  have s1 : ((24 - (8 * (0 + 1))) &&& 31 : Int32) = (24 + (-8)) &&& 31 := by decide +kernel
  have s2 : ((24 - (8 * (0 + 1 + 1))) &&& 31 : Int32) = (24 + (-8) + (-8)) &&& 31 := by decide +kernel
  have s3 : ((24 - (8 * (0 + 1 + 1 + 1))) &&& 31 : Int32) = (24 + (-8) + (-8) + (-8)) &&& 31 := by decide +kernel
  rw [i0, i1, i2, i3, s0, s1, s2, s3]
  exact zTp_up (zTp_up (zTp_up (zTp_up ht (zByte' _)) (zByte' _)) (zByte' _)) (zByte' _)
theorem zTp_feed {p1 p2 p3 p4 p5 v w : Int32} {f1 f2 g1 g2 : Nat → Int32} {o o' : Int32 × Int32 × (Nat → Int32) × (Nat → Int32)} (e : v = w) (hv : 0 ≤ v ∧ v ≤ 1200) (ht : zTp f1 g1) (h1 : fn_X11_feed p1 p2 p3 p4 p5 v f1 f2 = some o) (h2 : fn_X12_feed p1 p2 p3 p4 p5 w g1 g2 = some o') : zTp o.2.2.1 o'.2.2.1 := by
  subst e
  obtain ⟨hv1, hv2⟩ := hv
  unfold fn_X11_feed at h1
  unfold fn_X12_feed at h2
  by_cases c : v ≤ 1180
  · rw [if_pos c] at h1
    rw [if_pos (by lia)] at h2
    obtain ⟨a1, e1, h1⟩ := zb_s h1
    obtain ⟨a2, e2, h1⟩ := zb_s h1
    obtain ⟨a3, e3, h1⟩ := zb_s h1
    obtain ⟨a4, e4, h1⟩ := zb_s h1
    obtain ⟨a5, e5, h1⟩ := zb_s h1
    obtain ⟨b1, d1, h2⟩ := zb_s h2
    obtain ⟨b2, d2, h2⟩ := zb_s h2
    obtain ⟨b3, d3, h2⟩ := zb_s h2
    obtain ⟨b4, d4, h2⟩ := zb_s h2
    obtain ⟨b5, d5, h2⟩ := zb_s h2
    have q1 := zputlen e1 hv1 (by lia)
    have q2 := zputlen e2 (by lia) (by lia)
    have q3 := zputlen e3 (by lia) (by lia)
    have q4 := zputlen e4 (by lia) (by lia)
    have r1 := zlayslen d1
    have r2 := zlayslen d2
    have r3 := zlayslen d3
    have r4 := zlayslen d4
    rw [show b1.1 = a1.1 by rw [q1, r1]] at d2
    rw [show b2.1 = a2.1 by rw [r2, q2, show b1.1 = a1.1 by rw [q1, r1]]] at d3
    rw [show b3.1 = a3.1 by lia] at d4
    rw [show b4.1 = a4.1 by lia] at d5
    have t1 := zTp_put ht hv1 (by lia) e1 d1
    have t2 := zTp_put t1 (by lia) (by lia) e2 d2
    have t3 := zTp_put t2 (by lia) (by lia) e3 d3
    have t4 := zTp_put t3 (by lia) (by lia) e4 d4
    have t5 := zTp_put t4 (by lia) (by lia) e5 d5
    rw [← Option.some.inj h1, ← Option.some.inj h2]
    exact t5
  · rw [if_neg c] at h1
    rw [if_neg (by lia)] at h2
    obtain ⟨a1, e1, h1⟩ := zb_s h1
    obtain ⟨b1, d1, h2⟩ := zb_s h2
    rw [← Option.some.inj h1, ← Option.some.inj h2]
    exact ht
/-! GROUPS: the class counts them, the reference names each by its least NUMBER -/
noncomputable def zRk (G : Nat → Int32) : Nat → Int32 := zct (fun k => decide (G k = Int32.ofNat k))
theorem zRk_t {G : Nat → Int32} {p : Int32} (h0 : 0 ≤ p) (h1 : p ≤ 14) (h : G p.toNatClampNeg = p) : zRk G (p + 1).toNatClampNeg = zRk G p.toNatClampNeg + 1 :=
  zct_t h0 (by grind) (by show decide (G p.toNatClampNeg = Int32.ofNat p.toNatClampNeg) = true; rw [zofn' p h0]; exact decide_eq_true h)
theorem zRk_f {G : Nat → Int32} {p : Int32} (h0 : 0 ≤ p) (h1 : p ≤ 14) (h : ¬ G p.toNatClampNeg = p) : zRk G (p + 1).toNatClampNeg = zRk G p.toNatClampNeg :=
  zct_f h0 (by grind) (by show ¬ decide (G p.toNatClampNeg = Int32.ofNat p.toNatClampNeg) = true; rw [zofn' p h0]; exact fun q => h (of_decide_eq_true q))
theorem zRk_b {G : Nat → Int32} {p : Int32} (h0 : 0 ≤ p) (h1 : p ≤ 14) : 0 ≤ zRk G p.toNatClampNeg ∧ zRk G p.toNatClampNeg ≤ p := zct_b32 h0 h1
theorem zRk_lt {G : Nat → Int32} {a b : Int32} (h0 : 0 ≤ a) (h1 : a < b) (h2 : b ≤ 14) (hl : G a.toNatClampNeg = a) : zRk G a.toNatClampNeg < zRk G b.toNatClampNeg := by
  have e := zRk_t h0 (by grind) hl
  have m : zRk G (a + 1).toNatClampNeg ≤ zRk G b.toNatClampNeg := zct_m32 (by grind) (by grind) h2
  have r := zRk_b (G := G) h0 (show a ≤ 14 by grind)
  rw [e] at m
  generalize zRk G a.toNatClampNeg = u at m r ⊢
  generalize zRk G b.toNatClampNeg = v at m ⊢
  grind
theorem zRk_ne {G : Nat → Int32} {a b : Int32} (ha : 0 ≤ a ∧ a ≤ 14) (hb : 0 ≤ b ∧ b ≤ 14) (la : G a.toNatClampNeg = a) (lb : G b.toNatClampNeg = b) (h : ¬ a = b) : ¬ zRk G a.toNatClampNeg = zRk G b.toNatClampNeg := by
  intro q
  by_cases c : a < b
  · have := zRk_lt ha.1 c hb.2 la
    rw [q] at this
    grind
  · have := zRk_lt (G := G) hb.1 (show b < a by grind) ha.2 lb
    rw [q] at this
    grind
/-- how a GROUP (by its least NUMBER j) is fixed by the first m NUMBERS -/
noncomputable def zFxS (mG fx : Nat → Int32) (m j v : Int32) : Prop :=
  v = (-1) ∧ (∀ o : Int32, 0 ≤ o → o < m → mG o.toNatClampNeg = j → fx o.toNatClampNeg = (-1))
  ∨ v = (-2) ∧ (∃ o p : Int32, 0 ≤ o ∧ o < m ∧ 0 ≤ p ∧ p < m ∧ mG o.toNatClampNeg = j ∧ mG p.toNatClampNeg = j ∧ ¬ fx o.toNatClampNeg = (-1) ∧ ¬ fx p.toNatClampNeg = (-1) ∧ ¬ fx o.toNatClampNeg = fx p.toNatClampNeg)
  ∨ 0 ≤ v ∧ (∃ o : Int32, 0 ≤ o ∧ o < m ∧ mG o.toNatClampNeg = j ∧ fx o.toNatClampNeg = v) ∧ (∀ o : Int32, 0 ≤ o → o < m → mG o.toNatClampNeg = j → fx o.toNatClampNeg = (-1) ∨ fx o.toNatClampNeg = v)
theorem zFxS_o {mG fx : Nat → Int32} {i j v : Int32} (hi : 0 ≤ i ∧ i < 14) (hj : mG i.toNatClampNeg = j → fx i.toNatClampNeg = (-1) ∨ fx i.toNatClampNeg = v ∧ 0 ≤ v) (h : zFxS mG fx i j v) : zFxS mG fx (i + 1) j v := by
  have hs : ∀ o : Int32, o < i + 1 → o = i ∨ o < i := fun o ho => by (first | ((try clear h); (try clear hs); (try clear ho); grind) | grind)
  have hl : ∀ o : Int32, o < i → o < i + 1 := fun o ho => by (first | ((try clear h); (try clear hs); (try clear ho); (try clear hl); grind) | grind)
  rcases h with ⟨a1, a2⟩ | ⟨a1, o, p, b1, b2, b3, b4, b5⟩ | ⟨a1, ⟨o, b1, b2, b3⟩, a2⟩
  · refine Or.inl ⟨a1, fun o o1 o2 o3 => ?_⟩
    rcases hs o o2 with q | q
    · rw [q] at o3 ⊢
      rcases hj o3 with w | w
      · exact w
      · exact absurd w.2 (by rw [a1]; decide)
    · exact a2 o o1 q o3
  · exact Or.inr (Or.inl ⟨a1, o, p, b1, hl o b2, b3, hl p b4, b5⟩)
  · refine Or.inr (Or.inr ⟨a1, ⟨o, b1, hl o b2, b3⟩, fun u u1 u2 u3 => ?_⟩)
    rcases hs u u2 with q | q
    · rw [q] at u3 ⊢
      rcases hj u3 with w | w
      · exact Or.inl w
      · exact Or.inr w.1
    · exact a2 u u1 q u3
theorem zFxS_1 {mG fx : Nat → Int32} {i j : Int32} (hi : 0 ≤ i ∧ i < 14) (hj : mG i.toNatClampNeg = j) (hf : 0 ≤ fx i.toNatClampNeg) (h : zFxS mG fx i j (-1)) : zFxS mG fx (i + 1) j (fx i.toNatClampNeg) := by
  have hs : ∀ o : Int32, o < i + 1 → o = i ∨ o < i := fun o ho => by (first | ((try clear h); (try clear hs); (try clear ho); grind) | grind)
  rcases h with ⟨_, a2⟩ | ⟨a1, _⟩ | ⟨a1, _⟩
  · refine Or.inr (Or.inr ⟨hf, ⟨i, hi.1, by (first | ((try clear h); (try clear hs); (try clear ho); grind) | grind), hj, rfl⟩, fun u u1 u2 u3 => ?_⟩)
    rcases hs u u2 with q | q
    · rw [q]; exact Or.inr rfl
    · exact Or.inl (a2 u u1 q u3)
  · exact absurd a1 (by decide)
  · exact absurd a1 (by decide)
theorem zFxS_2 {mG fx : Nat → Int32} {i j v : Int32} (hi : 0 ≤ i ∧ i < 14) (hj : mG i.toNatClampNeg = j) (hf : 0 ≤ fx i.toNatClampNeg) (h1 : ¬ v = (-1)) (h2 : ¬ v = fx i.toNatClampNeg) (h : zFxS mG fx i j v) : zFxS mG fx (i + 1) j (-2) := by
  have hl : ∀ o : Int32, o < i → o < i + 1 := fun o ho => by (first | ((try clear h); (try clear hl); (try clear ho); grind) | grind)
  have hf1 : ¬ fx i.toNatClampNeg = (-1) := fun q => by rw [q] at hf; exact absurd hf (by decide)
  rcases h with ⟨a1, _⟩ | ⟨a1, o, p, b1, b2, b3, b4, b5⟩ | ⟨a1, ⟨o, b1, b2, b3, b4⟩, a2⟩
  · exact absurd a1 h1
  · exact Or.inr (Or.inl ⟨rfl, o, p, b1, hl o b2, b3, hl p b4, b5⟩)
  · exact Or.inr (Or.inl ⟨rfl, o, i, b1, hl o b2, hi.1, by (first | ((try clear h); (try clear hl); (try clear ho); grind) | grind), b3, hj, by rw [b4]; exact h1, hf1, by rw [b4]; exact h2⟩)
noncomputable def zGi (m gc gcl : Int32) (gof gfx gld fx mG : Nat → Int32) : Prop :=
  gc = zRk mG m.toNatClampNeg ∧ (∀ j : Int32, 0 ≤ j → j < m → gof j.toNatClampNeg = zRk mG (mG j.toNatClampNeg).toNatClampNeg) ∧ (∀ j : Int32, 0 ≤ j → j < m → mG j.toNatClampNeg = j → gld (zRk mG j.toNatClampNeg).toNatClampNeg = j ∧ zFxS mG fx m j (gfx (zRk mG j.toNatClampNeg).toNatClampNeg)) ∧ (gcl = 0 ∨ gcl = 1) ∧ (gcl = 0 → ∀ j : Int32, 0 ≤ j → j < m → mG j.toNatClampNeg = j → ¬ gfx (zRk mG j.toNatClampNeg).toNatClampNeg = (-2)) ∧ (gcl = 1 → ∃ j : Int32, 0 ≤ j ∧ j < m ∧ mG j.toNatClampNeg = j ∧ gfx (zRk mG j.toNatClampNeg).toNatClampNeg = (-2))
noncomputable def zGp (cN gc gfr gcl : Int32) (gof gfx gld fx mG : Nat → Int32) : Prop := zGi cN gc gcl gof gfx gld fx mG ∧ gfr = zct (fun k => decide (gfx k = (-1))) gc.toNatClampNeg
theorem zGi_0 {gof gfx gld fx mG : Nat → Int32} : zGi 0 0 0 gof gfx gld fx mG := by
  have no : ∀ i : Int32, 0 ≤ i → ¬ i < 0 := fun i h q => by (first | ((try clear no); grind) | grind)
  exact ⟨by rw [zn01.1]; rfl, fun j j1 j2 => absurd j2 (no j j1), fun j j1 j2 => absurd j2 (no j j1), Or.inl rfl, fun _ j j1 j2 => absurd j2 (no j j1), fun q => absurd q (by decide)⟩
theorem zEarl {i x : Int32} {jn gof : Nat → Int32} (h : fn_X2_earlierGroup i jn gof = some x) : (x = (-1) ∧ ∀ j : Int32, 0 ≤ j → j < i → ¬ jn j.toNatClampNeg = jn i.toNatClampNeg) ∨ (∃ j : Int32, 0 ≤ j ∧ j < i ∧ jn j.toNatClampNeg = jn i.toNatClampNeg ∧ x = gof j.toNatClampNeg) := by
  unfold fn_X2_earlierGroup at h
  refine zl_ip (P := fun x => (x = (-1) ∧ ∀ j : Int32, 0 ≤ j → j < i → ¬ jn j.toNatClampNeg = jn i.toNatClampNeg) ∨ (∃ j : Int32, 0 ≤ j ∧ j < i ∧ jn j.toNatClampNeg = jn i.toNatClampNeg ∧ x = gof j.toNatClampNeg)) (fun s => 0 ≤ s ∧ ∀ j : Int32, 0 ≤ j → j < s → ¬ jn j.toNatClampNeg = jn i.toNatClampNeg) ?_ _ _ _ ?_ h
  rotate_left
  · exact ⟨by decide, fun j j1 j2 => by (first | ((try clear h); grind) | grind)⟩
  intro s back o ⟨H1, H2⟩ hb ho
  by_cases c : i ≤ s
  · rw [if_pos c] at ho
    rw [← Option.some.inj ho]
    exact Or.inl ⟨rfl, fun j j1 j2 => H2 j j1 (by (first | ((try clear h); (try clear hb); (try clear ho); grind) | grind))⟩
  · rw [if_neg c] at ho
    obtain ⟨hs, ho⟩ := zg_s ho
    have hs := vp_in_iff.mp hs
    obtain ⟨-, ho⟩ := zg_s ho
    by_cases d : jn s.toNatClampNeg = jn i.toNatClampNeg
    · rw [if_pos d] at ho
      rw [← Option.some.inj ho]
      exact Or.inr ⟨s, H1, by (first | ((try clear h); (try clear hb); (try clear ho); grind) | grind), d, rfl⟩
    · rw [if_neg d] at ho
      have h13 : s < 14 := Int32.lt_iff_toInt_lt.mpr (by rw [show (14 : Int32).toInt = 14 by decide +kernel]; exact hs.2)
      refine hb _ _ ?_ ho
      refine ⟨by (first | ((try clear h); (try clear hb); (try clear ho); grind) | grind), fun j j1 j2 => ?_⟩
      by_cases q : j = s
      · rw [q]; exact d
      · exact H2 j j1 (by (first | ((try clear h); (try clear hb); (try clear ho); grind) | grind))
theorem zFix2 {g v cl : Int32} {gfx : Nat → Int32} {x : Int32 × (Nat → Int32)} (hc : cl = 0 ∨ cl = 1) (h : fn_X2_fix g v cl gfx = some x) : ((v = (-1) ∨ gfx g.toNatClampNeg = v) ∧ x = (cl, gfx)) ∨ (¬ v = (-1) ∧ gfx g.toNatClampNeg = (-1) ∧ x = (cl, upd gfx g.toNatClampNeg v)) ∨ (¬ v = (-1) ∧ ¬ gfx g.toNatClampNeg = v ∧ ¬ gfx g.toNatClampNeg = (-1) ∧ x = (1, upd gfx g.toNatClampNeg (-2))) := by
  unfold fn_X2_fix at h
  simp only [zj] at h
  by_cases c : v = (-1)
  · rw [if_pos c] at h
    exact Or.inl ⟨Or.inl c, (Option.some.inj h).symm⟩
  · rw [if_neg c] at h
    obtain ⟨-, h⟩ := zg_s h
    by_cases d : gfx g.toNatClampNeg = v
    · rw [if_pos d] at h
      exact Or.inl ⟨Or.inr d, (Option.some.inj h).symm⟩
    · rw [if_neg d] at h
      by_cases e : gfx g.toNatClampNeg = (-1)
      · simp only [if_pos e] at h
        rcases hc with z | z
        · rw [if_pos z] at h
          obtain ⟨-, h⟩ := zt_s h
          obtain ⟨-, h⟩ := zg_s h
          rw [z]
          exact Or.inr (Or.inl ⟨c, e, (Option.some.inj h).symm⟩)
        · rw [if_neg (by rw [z]; decide)] at h
          obtain ⟨-, h⟩ := zt_s h
          obtain ⟨-, h⟩ := zg_s h
          rw [z]
          exact Or.inr (Or.inl ⟨c, e, (Option.some.inj h).symm⟩)
      · simp only [if_neg e] at h
        rcases hc with z | z
        · rw [if_pos z] at h
          obtain ⟨-, h⟩ := zt_s h
          obtain ⟨-, h⟩ := zg_s h
          exact Or.inr (Or.inr ⟨c, d, e, (Option.some.inj h).symm⟩)
        · rw [if_neg (by rw [z]; decide)] at h
          obtain ⟨-, h⟩ := zt_s h
          obtain ⟨-, h⟩ := zg_s h
          exact Or.inr (Or.inr ⟨c, d, e, (Option.some.inj h).symm⟩)
theorem zGstep {cN i c' cl : Int32} {of' gfx' ld' fx jn mG : Nat → Int32} {z : Int32 × (Nat → Int32)} (hN : cN ≤ 14) (hi : 0 ≤ i ∧ i < cN) (hg : zG0 cN jn mG) (hx : (-1) ≤ fx i.toNatClampNeg) (A : c' = zRk mG (i + 1).toNatClampNeg) (B : ∀ j : Int32, 0 ≤ j → j < i + 1 → of' j.toNatClampNeg = zRk mG (mG j.toNatClampNeg).toNatClampNeg) (C : ∀ j : Int32, 0 ≤ j → j < i + 1 → mG j.toNatClampNeg = j → ld' (zRk mG j.toNatClampNeg).toNatClampNeg = j ∧ zFxS mG fx i j (gfx' (zRk mG j.toNatClampNeg).toNatClampNeg)) (D1 : cl = 0 ∨ cl = 1) (D2 : cl = 0 → ∀ j : Int32, 0 ≤ j → j < i + 1 → mG j.toNatClampNeg = j → ¬ gfx' (zRk mG j.toNatClampNeg).toNatClampNeg = (-2)) (D3 : cl = 1 → ∃ j : Int32, 0 ≤ j ∧ j < i + 1 ∧ mG j.toNatClampNeg = j ∧ gfx' (zRk mG j.toNatClampNeg).toNatClampNeg = (-2)) (hf : fn_X2_fix (of' i.toNatClampNeg) (fx i.toNatClampNeg) cl gfx' = some z) : zGi (i + 1) c' z.1 of' z.2 ld' fx mG := by
  have i14 : 0 ≤ i ∧ i < 14 := ⟨hi.1, by (first | ((try clear hg); (try clear B); (try clear C); (try clear D2); (try clear hf); grind) | grind)⟩
  obtain ⟨l1, l2, l3⟩ := hg.1 i hi.1 hi.2
  rw [B i hi.1 (by (first | ((try clear hg); (try clear B); (try clear C); (try clear D2); (try clear hf); grind) | grind))] at hf
  have g0 := (zRk_b (G := mG) (p := mG i.toNatClampNeg) l1 (by (first | ((try clear hg); (try clear B); (try clear C); (try clear D2); (try clear hf); grind) | grind))).1
  have nn : ∀ j : Int32, 0 ≤ j → j < i + 1 → 0 ≤ zRk mG j.toNatClampNeg := fun j j1 j2 => (zRk_b j1 (by (first | ((try clear hg); (try clear B); (try clear C); (try clear D2); (try clear hf); (try clear nn); grind) | grind))).1
  have inj : ∀ j : Int32, 0 ≤ j → j < i + 1 → mG j.toNatClampNeg = j → ¬ j = mG i.toNatClampNeg → ¬ zRk mG j.toNatClampNeg = zRk mG (mG i.toNatClampNeg).toNatClampNeg := fun j j1 j2 j3 j4 => zRk_ne ⟨j1, by (first | ((try clear hg); (try clear B); (try clear C); (try clear D2); (try clear hf); (try clear nn); (try clear inj); grind) | grind)⟩ ⟨l1, by (first | ((try clear hg); (try clear B); (try clear C); (try clear D2); (try clear hf); (try clear nn); (try clear inj); grind) | grind)⟩ j3 l3 j4
  rcases zFix2 D1 hf with ⟨w, rfl⟩ | ⟨w1, w2, rfl⟩ | ⟨w1, w2, w3, rfl⟩
  · refine ⟨A, B, fun j j1 j2 j3 => ⟨(C j j1 j2 j3).1, zFxS_o i14 (fun q => ?_) (C j j1 j2 j3).2⟩, D1, D2, D3⟩
    by_cases e : fx i.toNatClampNeg = (-1)
    · exact Or.inl e
    · rcases w with w | w
      · exact absurd w e
      · rw [q] at w
        exact Or.inr ⟨w.symm, by show 0 ≤ gfx' (zRk mG j.toNatClampNeg).toNatClampNeg; rw [w]; (first | ((try clear hg); (try clear B); (try clear C); (try clear D2); (try clear hf); (try clear nn); (try clear inj); grind) | grind)⟩
  · have hf0 : 0 ≤ fx i.toNatClampNeg := by (first | ((try clear hg); (try clear B); (try clear C); (try clear D2); (try clear hf); (try clear nn); (try clear inj); grind) | grind)
    refine ⟨A, B, fun j j1 j2 j3 => ⟨(C j j1 j2 j3).1, ?_⟩, D1, fun q j j1 j2 j3 => ?_, fun q => ?_⟩
    · show zFxS mG fx (i + 1) j (upd gfx' (zRk mG (mG i.toNatClampNeg).toNatClampNeg).toNatClampNeg (fx i.toNatClampNeg) (zRk mG j.toNatClampNeg).toNatClampNeg)
      rw [zup g0 (nn j j1 j2)]
      by_cases e : j = mG i.toNatClampNeg
      · rw [if_pos (by rw [e])]
        have k := (C j j1 j2 j3).2
        rw [show gfx' (zRk mG j.toNatClampNeg).toNatClampNeg = (-1) by rw [e]; exact w2] at k
        exact zFxS_1 i14 e.symm hf0 k
      · rw [if_neg (inj j j1 j2 j3 e)]
        exact zFxS_o i14 (fun q => absurd q.symm e) (C j j1 j2 j3).2
    · show ¬ upd gfx' (zRk mG (mG i.toNatClampNeg).toNatClampNeg).toNatClampNeg (fx i.toNatClampNeg) (zRk mG j.toNatClampNeg).toNatClampNeg = (-2)
      rw [zup g0 (nn j j1 j2)]
      by_cases e : zRk mG j.toNatClampNeg = zRk mG (mG i.toNatClampNeg).toNatClampNeg
      · rw [if_pos e]
        intro w
        rw [w] at hf0
        exact absurd hf0 (by decide)
      · rw [if_neg e]; exact D2 q j j1 j2 j3
    · obtain ⟨j, j1, j2, j3, j4⟩ := D3 q
      refine ⟨j, j1, j2, j3, ?_⟩
      show upd gfx' (zRk mG (mG i.toNatClampNeg).toNatClampNeg).toNatClampNeg (fx i.toNatClampNeg) (zRk mG j.toNatClampNeg).toNatClampNeg = (-2)
      rw [zup g0 (nn j j1 j2), if_neg ?_]
      · exact j4
      · intro e
        rw [e, w2] at j4
        exact absurd j4 (by decide)
  · have hf0 : 0 ≤ fx i.toNatClampNeg := by (first | ((try clear hg); (try clear B); (try clear C); (try clear D2); (try clear hf); (try clear nn); (try clear inj); grind) | grind)
    refine ⟨A, B, fun j j1 j2 j3 => ⟨(C j j1 j2 j3).1, ?_⟩, Or.inr rfl, fun q => absurd q (show ¬ (1 : Int32) = 0 by decide), fun _ => ⟨mG i.toNatClampNeg, l1, by (first | ((try clear hg); (try clear B); (try clear C); (try clear D2); (try clear hf); (try clear nn); (try clear inj); grind) | grind), l3, ?_⟩⟩
    · show zFxS mG fx (i + 1) j (upd gfx' (zRk mG (mG i.toNatClampNeg).toNatClampNeg).toNatClampNeg (-2) (zRk mG j.toNatClampNeg).toNatClampNeg)
      rw [zup g0 (nn j j1 j2)]
      by_cases e : j = mG i.toNatClampNeg
      · rw [if_pos (by rw [e])]
        have k := (C j j1 j2 j3).2
        rw [← e] at w2 w3
        exact zFxS_2 i14 e.symm hf0 w3 w2 k
      · rw [if_neg (inj j j1 j2 j3 e)]
        exact zFxS_o i14 (fun q => absurd q.symm e) (C j j1 j2 j3).2
    · show upd gfx' (zRk mG (mG i.toNatClampNeg).toNatClampNeg).toNatClampNeg (-2) (zRk mG (mG i.toNatClampNeg).toNatClampNeg).toNatClampNeg = (-2)
      rw [zup g0 g0, if_pos rfl]
set_option maxHeartbeats 4000000 in
theorem zGather {cN : Int32} {jn fx mG a b c : Nat → Int32} {x : Int32 × Int32 × Int32 × (Nat → Int32) × (Nat → Int32) × (Nat → Int32)} (hN : 0 ≤ cN ∧ cN ≤ 14) (hg : zG0 cN jn mG) (hx : ∀ i : Int32, 0 ≤ i → i < cN → (-1) ≤ fx i.toNatClampNeg) (h : fn_X2_gather cN jn a b c fx = some x) : zGp cN x.1 x.2.1 x.2.2.1 x.2.2.2.1 x.2.2.2.2.2 x.2.2.2.2.1 fx mG := by
  unfold fn_X2_gather at h
  refine zl_ip (P := fun x : Int32 × Int32 × Int32 × (Nat → Int32) × (Nat → Int32) × (Nat → Int32) => zGp cN x.1 x.2.1 x.2.2.1 x.2.2.2.1 x.2.2.2.2.2 x.2.2.2.2.1 fx mG) (fun s => 0 ≤ s.1 ∧ s.1 ≤ cN ∧ zGi s.1 s.2.1 s.2.2.1 s.2.2.2.1 s.2.2.2.2.1 s.2.2.2.2.2 fx mG) ?_ _ _ _ ?_ h
  rotate_left
  · exact ⟨(show (0 : Int32) ≤ 0 by decide), hN.1, zGi_0⟩
  intro s back o ⟨H1, H2, HG⟩ hb ho
  obtain ⟨i, cnt, cl, of, gfx, ld⟩ := s
  dsimp only at H1 H2 HG ho hb
  by_cases c1 : cN ≤ i
  · rw [if_pos c1] at ho
    have e : i = cN := by (first | ((try clear hg); (try clear hx); (try clear h); (try clear hb); (try clear ho); grind) | grind)
    subst e
    have hc := zRk_b (G := mG) (p := i) H1 hN.2
    rw [← HG.1] at hc
    refine zl_ip (P := fun x : Int32 × Int32 × Int32 × (Nat → Int32) × (Nat → Int32) × (Nat → Int32) => zGp i x.1 x.2.1 x.2.2.1 x.2.2.2.1 x.2.2.2.2.2 x.2.2.2.2.1 fx mG) (fun t => 0 ≤ t.1 ∧ t.1 ≤ cnt ∧ t.2 = zct (fun k => decide (gfx k = (-1))) t.1.toNatClampNeg) ?_ _ _ _ ?_ ho
    rotate_left
    · exact ⟨(show (0 : Int32) ≤ 0 by decide), hc.1, by show (0 : Int32) = zct _ (0 : Int32).toNatClampNeg; rw [zn01.1]; rfl⟩
    intro t back' o' ⟨K1, K2, K3⟩ hb' ho'
    obtain ⟨g, n⟩ := t
    dsimp only at K1 K2 K3 ho' hb'
    by_cases c2 : cnt ≤ g
    · rw [if_pos c2] at ho'
      have e' : g = cnt := by (first | ((try clear hg); (try clear hx); (try clear h); (try clear hb); (try clear ho); grind) | grind)
      rw [← Option.some.inj ho']
      exact ⟨HG, by show n = _; rw [K3, e']⟩
    · rw [if_neg c2] at ho'
      obtain ⟨-, ho'⟩ := zg_s ho'
      by_cases d : gfx g.toNatClampNeg = (-1)
      · rw [if_pos d] at ho'
        refine hb' _ _ ?_ ho'
        refine ⟨?_, ?_, ?_⟩
        · show 0 ≤ g + 1
          (first | ((try clear hg); (try clear hx); (try clear h); (try clear hb); (try clear ho); (try clear ho'); grind) | grind)
        · show g + 1 ≤ cnt
          (first | ((try clear hg); (try clear hx); (try clear h); (try clear hb); (try clear ho); (try clear ho'); grind) | grind)
        · show n + 1 = zct _ (g + 1).toNatClampNeg
          rw [zct_t K1 (by (first | ((try clear hg); (try clear hx); (try clear h); (try clear hb); (try clear ho); (try clear ho'); grind) | grind)) (decide_eq_true d), K3]
      · rw [if_neg d] at ho'
        refine hb' _ _ ?_ ho'
        refine ⟨?_, ?_, ?_⟩
        · show 0 ≤ g + 1
          (first | ((try clear hg); (try clear hx); (try clear h); (try clear hb); (try clear ho); (try clear ho'); grind) | grind)
        · show g + 1 ≤ cnt
          (first | ((try clear hg); (try clear hx); (try clear h); (try clear hb); (try clear ho); (try clear ho'); grind) | grind)
        · show n + 0 = zct _ (g + 1).toNatClampNeg
          rw [zct_f K1 (by (first | ((try clear hg); (try clear hx); (try clear h); (try clear hb); (try clear ho); (try clear ho'); grind) | grind)) (fun q => d (of_decide_eq_true q)), K3, Int32.add_zero]
  · rw [if_neg c1] at ho
    obtain ⟨e7, he7, ho⟩ := zb_s ho
    obtain ⟨-, ho⟩ := zg_s ho
    simp only [zj, zn] at ho
    have e8 : upd of i.toNatClampNeg e7 i.toNatClampNeg = e7 := if_pos rfl
    have hi : 0 ≤ i ∧ i < cN := ⟨H1, by (first | ((try clear hg); (try clear hx); (try clear h); (try clear hb); (try clear ho); (try clear ho'); (try clear he7); grind) | grind)⟩
    obtain ⟨l1, l2, l3⟩ := hg.1 i hi.1 hi.2
    obtain ⟨G1, G2, G3, G4, G5, G6⟩ := HG
    have hs : ∀ j : Int32, j < i + 1 → j = i ∨ j < i := fun o ho => by (first | ((try clear hg); (try clear hx); (try clear h); (try clear hb); (try clear ho); (try clear ho'); (try clear he7); (try clear hs); grind) | grind)
    rcases zEarl he7 with ⟨w1, w2⟩ | ⟨j0, j1, j2, j3, j4⟩
    · have hl : mG i.toNatClampNeg = i := by
        by_cases q : mG i.toNatClampNeg = i
        · exact q
        · have hlt : mG i.toNatClampNeg < i := by (first | ((try clear hg); (try clear hx); (try clear h); (try clear hb); (try clear ho); (try clear ho'); (try clear he7); (try clear hs); grind) | grind)
          exact absurd ((hg.2 (mG i.toNatClampNeg) i l1 (by (first | ((try clear hg); (try clear hx); (try clear h); (try clear hb); (try clear ho); (try clear ho'); (try clear he7); (try clear hs); grind) | grind)) hi.1 hi.2).mpr l3) (w2 _ l1 hlt)
      rw [if_pos (e8.trans w1)] at ho
      obtain ⟨-, ho⟩ := zg_s ho
      obtain ⟨-, ho⟩ := zg_s ho
      obtain ⟨z, hz, ho⟩ := zb_s ho
      have hr := zRk_b (G := mG) (p := i) H1 (by (first | ((try clear hg); (try clear hx); (try clear h); (try clear hb); (try clear ho); (try clear ho'); (try clear he7); (try clear hs); (try clear hz); grind) | grind))
      have nn : ∀ j : Int32, 0 ≤ j → j < i + 1 → 0 ≤ zRk mG j.toNatClampNeg := fun j j1 j2 => (zRk_b j1 (by (first | ((try clear hg); (try clear hx); (try clear h); (try clear hb); (try clear ho); (try clear ho'); (try clear he7); (try clear hs); (try clear hz); (try clear nn); grind) | grind))).1
      have ne : ∀ j : Int32, 0 ≤ j → j < i → mG j.toNatClampNeg = j → ¬ zRk mG j.toNatClampNeg = zRk mG i.toNatClampNeg := fun j j1 j2 j3 => zRk_ne ⟨j1, by (first | ((try clear hg); (try clear hx); (try clear h); (try clear hb); (try clear ho); (try clear ho'); (try clear he7); (try clear hs); (try clear hz); (try clear nn); (try clear ne); grind) | grind)⟩ ⟨H1, by (first | ((try clear hg); (try clear hx); (try clear h); (try clear hb); (try clear ho); (try clear ho'); (try clear he7); (try clear hs); (try clear hz); (try clear nn); (try clear ne); grind) | grind)⟩ j3 hl (by (first | ((try clear hg); (try clear hx); (try clear h); (try clear hb); (try clear ho); (try clear ho'); (try clear he7); (try clear hs); (try clear hz); (try clear nn); (try clear ne); grind) | grind))
      subst G1
      have st := zGstep (cN := cN) (i := i) (c' := zRk mG i.toNatClampNeg + 1) (of' := upd (upd of i.toNatClampNeg e7) i.toNatClampNeg (zRk mG i.toNatClampNeg)) (gfx' := upd gfx (zRk mG i.toNatClampNeg).toNatClampNeg (-1)) (ld' := upd ld (zRk mG i.toNatClampNeg).toNatClampNeg i) hN.2 hi hg (hx i hi.1 hi.2) (zRk_t H1 (by (first | ((try clear hg); (try clear hx); (try clear h); (try clear hb); (try clear ho); (try clear ho'); (try clear he7); (try clear hs); (try clear hz); (try clear nn); (try clear ne); grind) | grind)) hl).symm (fun j j1 j2 => ?_) (fun j j1 j2 j3 => ?_) G4 (fun q j j1 j2 j3 => ?_) (fun q => ?_) hz
      · refine hb _ _ ?_ ho
        refine ⟨?_, ?_, st⟩
        · show 0 ≤ i + 1
          (first | ((try clear hg); (try clear hx); (try clear h); (try clear hb); (try clear ho); (try clear ho'); (try clear he7); (try clear hs); (try clear hz); (try clear nn); (try clear ne); grind) | grind)
        · show i + 1 ≤ cN
          (first | ((try clear hg); (try clear hx); (try clear h); (try clear hb); (try clear ho); (try clear ho'); (try clear he7); (try clear hs); (try clear hz); (try clear nn); (try clear ne); grind) | grind)
      · rw [zup H1 j1, zup H1 j1]
        by_cases q : j = i
        · rw [if_pos q, q, hl]
        · rw [if_neg q, if_neg q]; exact G2 j j1 (by (first | ((try clear hg); (try clear hx); (try clear h); (try clear hb); (try clear ho); (try clear ho'); (try clear he7); (try clear hs); (try clear hz); (try clear nn); (try clear ne); grind) | grind))
      · rw [zup hr.1 (nn j j1 j2), zup hr.1 (nn j j1 j2)]
        by_cases q : j = i
        · rw [if_pos (by rw [q]), if_pos (by rw [q])]
          exact ⟨q.symm, Or.inl ⟨rfl, fun o o1 o2 o3 => absurd (hg.1 o o1 (by (first | ((try clear hg); (try clear hx); (try clear h); (try clear hb); (try clear ho); (try clear ho'); (try clear he7); (try clear hs); (try clear hz); (try clear nn); (try clear ne); grind) | grind))).2.1 (by rw [o3, q]; (first | ((try clear hg); (try clear hx); (try clear h); (try clear hb); (try clear ho); (try clear ho'); (try clear he7); (try clear hs); (try clear hz); (try clear nn); (try clear ne); grind) | grind))⟩⟩
        · have lt : j < i := by (first | ((try clear hg); (try clear hx); (try clear h); (try clear hb); (try clear ho); (try clear ho'); (try clear he7); (try clear hs); (try clear hz); (try clear nn); (try clear ne); grind) | grind)
          rw [if_neg (ne j j1 lt j3), if_neg (ne j j1 lt j3)]
          exact G3 j j1 lt j3
      · rw [zup hr.1 (nn j j1 j2)]
        by_cases w : j = i
        · rw [if_pos (by rw [w])]; decide
        · have lt : j < i := by (first | ((try clear hg); (try clear hx); (try clear h); (try clear hb); (try clear ho); (try clear ho'); (try clear he7); (try clear hs); (try clear hz); (try clear nn); (try clear ne); grind) | grind)
          rw [if_neg (ne j j1 lt j3)]; exact G5 q j j1 lt j3
      · obtain ⟨j, j1, j2, j3, j4⟩ := G6 q
        refine ⟨j, j1, by (first | ((try clear hg); (try clear hx); (try clear h); (try clear hb); (try clear ho); (try clear ho'); (try clear he7); (try clear hs); (try clear hz); (try clear nn); (try clear ne); grind) | grind), j3, ?_⟩
        rw [zup hr.1 (nn j j1 (by (first | ((try clear hg); (try clear hx); (try clear h); (try clear hb); (try clear ho); (try clear ho'); (try clear he7); (try clear hs); (try clear hz); (try clear nn); (try clear ne); grind) | grind))), if_neg (ne j j1 j2 j3)]
        exact j4
    · have hm : mG j0.toNatClampNeg = mG i.toNatClampNeg := (hg.2 j0 i j1 (by (first | ((try clear hg); (try clear hx); (try clear h); (try clear hb); (try clear ho); (try clear ho'); (try clear he7); (try clear hs); (try clear hz); (try clear nn); (try clear ne); grind) | grind)) hi.1 hi.2).mp j3
      have hj := hg.1 j0 j1 (by (first | ((try clear hg); (try clear hx); (try clear h); (try clear hb); (try clear ho); (try clear ho'); (try clear he7); (try clear hs); (try clear hz); (try clear nn); (try clear ne); (try clear hj); grind) | grind))
      have hl : ¬ mG i.toNatClampNeg = i := by (first | ((try clear hg); (try clear hx); (try clear h); (try clear hb); (try clear ho); (try clear ho'); (try clear he7); (try clear hs); (try clear hz); (try clear nn); (try clear ne); (try clear hj); grind) | grind)
      have e9 : e7 = zRk mG (mG i.toNatClampNeg).toNatClampNeg := by rw [j4, G2 j0 j1 j2, hm]
      have r7 := (zRk_b (G := mG) (p := mG i.toNatClampNeg) l1 (by (first | ((try clear hg); (try clear hx); (try clear h); (try clear hb); (try clear ho); (try clear ho'); (try clear he7); (try clear hs); (try clear hz); (try clear nn); (try clear ne); (try clear hj); grind) | grind))).1
      rw [if_neg (by rw [e8, e9]; intro q; rw [q] at r7; exact absurd r7 (by decide))] at ho
      obtain ⟨-, ho⟩ := zg_s ho
      obtain ⟨z, hz, ho⟩ := zb_s ho
      have st := zGstep (cN := cN) (i := i) (c' := cnt) (of' := upd of i.toNatClampNeg e7) (gfx' := gfx) (ld' := ld) hN.2 hi hg (hx i hi.1 hi.2) (by rw [G1]; exact (zRk_f H1 (by (first | ((try clear hg); (try clear hx); (try clear h); (try clear hb); (try clear ho); (try clear ho'); (try clear he7); (try clear hs); (try clear hz); (try clear nn); (try clear ne); (try clear hj); grind) | grind)) hl).symm) (fun j j1 j2 => ?_) (fun j j1 j2 j3 => ?_) G4 (fun q j j1 j2 j3 => ?_) (fun q => ?_) hz
      · refine hb _ _ ?_ ho
        refine ⟨?_, ?_, st⟩
        · show 0 ≤ i + 1
          (first | ((try clear hg); (try clear hx); (try clear h); (try clear hb); (try clear ho); (try clear ho'); (try clear he7); (try clear hs); (try clear hz); (try clear nn); (try clear ne); (try clear hj); grind) | grind)
        · show i + 1 ≤ cN
          (first | ((try clear hg); (try clear hx); (try clear h); (try clear hb); (try clear ho); (try clear ho'); (try clear he7); (try clear hs); (try clear hz); (try clear nn); (try clear ne); (try clear hj); grind) | grind)
      · rw [zup H1 j1]
        by_cases q : j = i
        · rw [if_pos q, q, e9]
        · rw [if_neg q]; exact G2 j j1 (by (first | ((try clear hg); (try clear hx); (try clear h); (try clear hb); (try clear ho); (try clear ho'); (try clear he7); (try clear hs); (try clear hz); (try clear nn); (try clear ne); (try clear hj); grind) | grind))
      · exact G3 j j1 (by (first | ((try clear hg); (try clear hx); (try clear h); (try clear hb); (try clear ho); (try clear ho'); (try clear he7); (try clear hs); (try clear hz); (try clear nn); (try clear ne); (try clear hj); grind) | grind)) j3
      · exact G5 q j j1 (by (first | ((try clear hg); (try clear hx); (try clear h); (try clear hb); (try clear ho); (try clear ho'); (try clear he7); (try clear hs); (try clear hz); (try clear nn); (try clear ne); (try clear hj); grind) | grind)) j3
      · obtain ⟨j, j1, j2, j3, j4⟩ := G6 q
        exact ⟨j, j1, by (first | ((try clear hg); (try clear hx); (try clear h); (try clear hb); (try clear ho); (try clear ho'); (try clear he7); (try clear hs); (try clear hz); (try clear nn); (try clear ne); (try clear hj); grind) | grind), j3, j4⟩
/-! what follows of it -/
theorem zGp_eq {cN gc gfr gcl : Int32} {fx jn gof gfx gld mG : Nat → Int32} {i j : Int32} (hN : cN ≤ 14) (hg : zG0 cN jn mG) (G : zGp cN gc gfr gcl gof gfx gld fx mG) (hi : 0 ≤ i ∧ i < cN) (hj : 0 ≤ j ∧ j < cN) : gof i.toNatClampNeg = gof j.toNatClampNeg ↔ mG i.toNatClampNeg = mG j.toNatClampNeg := by
  rw [G.1.2.1 i hi.1 hi.2, G.1.2.1 j hj.1 hj.2]
  obtain ⟨a1, a2, a3⟩ := hg.1 i hi.1 hi.2
  obtain ⟨b1, b2, b3⟩ := hg.1 j hj.1 hj.2
  constructor
  · intro q
    by_cases e : mG i.toNatClampNeg = mG j.toNatClampNeg
    · exact e
    · exact absurd q (zRk_ne ⟨a1, by (first | ((try clear hg); (try clear G); grind) | grind)⟩ ⟨b1, by (first | ((try clear hg); (try clear G); grind) | grind)⟩ a3 b3 e)
  · intro q
    rw [q]
noncomputable def zFree (cN : Int32) (mG fx : Nat → Int32) (g : Int32) : Prop := ∀ o : Int32, 0 ≤ o → o < cN → mG o.toNatClampNeg = g → fx o.toNatClampNeg = (-1)
theorem zGp_fx {cN gc gfr gcl : Int32} {fx jn gof gfx gld mG : Nat → Int32} {i : Int32} (hN : cN ≤ 14) (hg : zG0 cN jn mG) (G : zGp cN gc gfr gcl gof gfx gld fx mG) (hi : 0 ≤ i ∧ i < cN) : zFxS mG fx cN (mG i.toNatClampNeg) (gfx (gof i.toNatClampNeg).toNatClampNeg) := by
  obtain ⟨a1, a2, a3⟩ := hg.1 i hi.1 hi.2
  rw [G.1.2.1 i hi.1 hi.2]
  exact (G.1.2.2.1 (mG i.toNatClampNeg) a1 (by (first | ((try clear hg); (try clear G); grind) | grind)) a3).2
theorem zFxS_f {cN j v : Int32} {mG fx : Nat → Int32} (h : zFxS mG fx cN j v) : v = (-1) ↔ zFree cN mG fx j := by
  rcases h with ⟨a1, a2⟩ | ⟨a1, o, p, b1, b2, b3, b4, b5, b6, b7, b8, b9⟩ | ⟨a1, ⟨o, b1, b2, b3, b4⟩, a2⟩
  · exact ⟨fun _ => a2, fun _ => a1⟩
  · exact ⟨fun q => absurd (a1.symm.trans q) (by decide), fun q => absurd (q o b1 b2 b5) b7⟩
  · refine ⟨fun q => absurd a1 (by rw [q]; decide), fun q => ?_⟩
    rw [← b4]
    exact q o b1 b2 b3
theorem zFreeC (gfx mG : Nat → Int32) : ∀ k : Nat, k ≤ 14 → zct (fun g => decide (gfx g = (-1))) (zRk mG k).toNatClampNeg = zct (fun k => decide (mG k = Int32.ofNat k ∧ gfx (zRk mG k).toNatClampNeg = (-1))) k := by
  intro k
  induction k with
  | zero =>
    intro _
    show zct _ (0 : Int32).toNatClampNeg = 0
    rw [zn01.1]
    rfl
  | succ k ih =>
    intro hk
    have h := ih (by omega)
    have hb := zct_b (fun k => decide (mG k = Int32.ofNat k)) k (by omega)
    have r : 0 ≤ zRk mG k ∧ zRk mG k ≤ 1200 := ⟨Int32.le_iff_toInt_le.mpr (by rw [zi_0]; exact hb.1), Int32.le_iff_toInt_le.mpr (by rw [z1200]; exact Int.le_trans hb.2 (by omega))⟩
    by_cases c : mG k = Int32.ofNat k
    · have e : zRk mG (k + 1) = zRk mG k + 1 := by
        show zRk mG k + (if decide (mG k = Int32.ofNat k) = true then 1 else 0) = _
        rw [if_pos (decide_eq_true c)]
      by_cases d : gfx (zRk mG k).toNatClampNeg = (-1)
      · rw [e, zct_t r.1 r.2 (decide_eq_true d), h]
        show _ = zct _ k + (if decide (mG k = Int32.ofNat k ∧ gfx (zRk mG k).toNatClampNeg = (-1)) = true then 1 else 0)
        rw [if_pos (decide_eq_true ⟨c, d⟩)]
      · rw [e, zct_f r.1 r.2 (fun q => d (of_decide_eq_true q)), h]
        show _ = zct _ k + (if decide (mG k = Int32.ofNat k ∧ gfx (zRk mG k).toNatClampNeg = (-1)) = true then 1 else 0)
        rw [if_neg (fun q => d (of_decide_eq_true q).2)]
        exact (Int32.add_zero _).symm
    · have e : zRk mG (k + 1) = zRk mG k := by
        show zRk mG k + (if decide (mG k = Int32.ofNat k) = true then 1 else 0) = _
        rw [if_neg (fun q => c (of_decide_eq_true q))]
        exact Int32.add_zero _
      rw [e, h]
      show _ = zct _ k + (if decide (mG k = Int32.ofNat k ∧ gfx (zRk mG k).toNatClampNeg = (-1)) = true then 1 else 0)
      rw [if_neg (fun q => c (of_decide_eq_true q).1)]
      exact (Int32.add_zero _).symm
/-! what is told of a TASK -/
theorem zct_lt {b : Nat → Bool} {a c : Int32} (h0 : 0 ≤ a) (h1 : a < c) (h2 : c ≤ 14) (hl : b a.toNatClampNeg = true) : zct b a.toNatClampNeg < zct b c.toNatClampNeg := by
  have e := zct_t h0 (show a ≤ 1200 by grind) hl
  have m : zct b (a + 1).toNatClampNeg ≤ zct b c.toNatClampNeg := zct_m32 (by grind) (by grind) h2
  have r := zct_b32 (b := b) h0 (show a ≤ 14 by grind)
  rw [e] at m
  generalize zct b a.toNatClampNeg = u at m r ⊢
  generalize zct b c.toNatClampNeg = v at m ⊢
  grind
theorem zcnt_loop {b : Nat → Bool} {n x : Int32} {B : Int32 × Int32 → (Int32 × Int32 → Option Int32) → Option Int32} (hn : 0 ≤ n ∧ n ≤ 14) (hB : ∀ (c i : Int32) (back : Int32 × Int32 → Option Int32) (o : Int32), 0 ≤ i → B (c, i) back = some o → (n ≤ i ∧ o = c) ∨ (i < n ∧ b i.toNatClampNeg = true ∧ back (c + 1, i + 1) = some o) ∨ (i < n ∧ ¬ b i.toNatClampNeg = true ∧ back (c + 0, i + 1) = some o)) (h : zl B 100000 (0, 0) = some x) : x = zct b n.toNatClampNeg := by
  refine zl_ip (P := fun x => x = zct b n.toNatClampNeg) (fun s => 0 ≤ s.2 ∧ s.2 ≤ n ∧ s.1 = zct b s.2.toNatClampNeg) ?_ _ _ _ ?_ h
  rotate_left
  · exact ⟨(show (0 : Int32) ≤ 0 by decide), hn.1, by show (0 : Int32) = zct _ (0 : Int32).toNatClampNeg; rw [zn01.1]; rfl⟩
  intro s back o ⟨H1, H2, H3⟩ hb ho
  obtain ⟨c, i⟩ := s
  dsimp only at H1 H2 H3
  rcases hB c i back o H1 ho with ⟨a1, a2⟩ | ⟨a1, a2, a3⟩ | ⟨a1, a2, a3⟩
  · rw [a2, H3, show i = n by (first | ((try clear hB); (try clear hb); (try clear ho); grind) | grind)]
  · refine hb _ _ ?_ a3
    exact ⟨(show 0 ≤ i + 1 by (first | ((try clear hB); (try clear hb); (try clear ho); grind) | grind)), (show i + 1 ≤ n by (first | ((try clear hB); (try clear hb); (try clear ho); grind) | grind)), (show c + 1 = zct b (i + 1).toNatClampNeg by rw [zct_t H1 (by (first | ((try clear hB); (try clear hb); (try clear ho); grind) | grind)) a2, H3])⟩
  · refine hb _ _ ?_ a3
    exact ⟨(show 0 ≤ i + 1 by (first | ((try clear hB); (try clear hb); (try clear ho); grind) | grind)), (show i + 1 ≤ n by (first | ((try clear hB); (try clear hb); (try clear ho); grind) | grind)), (show c + 0 = zct b (i + 1).toNatClampNeg by rw [zct_f H1 (by (first | ((try clear hB); (try clear hb); (try clear ho); grind) | grind)) a2, H3, Int32.add_zero])⟩
theorem zHasN (p n : Int32) : fn_X9_hasNumber p n = some (if 0 ≤ p ∧ p < n then 1 else 0) := by
  unfold fn_X9_hasNumber
  grind
theorem zHasF (p n : Int32) : fn_X9_hasFormat p n = some (if 0 ≤ p ∧ p < n then 1 else 0) := by
  unfold fn_X9_hasFormat
  grind
theorem zIsNum {p : Int32} {f : Nat → Int32} (h : 0 ≤ f 0) : fn_X12_isNumber p f = some (if 0 ≤ p ∧ p < f 0 then 1 else 0) := by
  unfold fn_X12_isNumber
  simp only [zIsIn, zb_some, zn01.1, z64_ge0, z64_ltm _ _ h]
theorem zIsFmt {p : Int32} {f : Nat → Int32} (h : 0 ≤ f 0) : fn_X12_isFormat p f = some (if 0 ≤ p ∧ p < f 0 then 1 else 0) := by
  unfold fn_X12_isFormat
  simp only [zIsIn, zb_some, zn01.1, z64_ge0, z64_ltm _ _ h]
theorem zMade0 {i cN : Int32} {made : Nat → Int32} (hN : cN ≤ 14) (hi : 0 ≤ i ∧ i < cN) : fn_X4_madeOf i 0 cN made = some (made (2 * i + 0).toNatClampNeg) := by
  unfold fn_X4_madeOf
  rw [if_neg (by grind), if_neg (by grind), if_neg (by decide), if_neg (by decide), zg_in 28 (by decide +kernel) (by grind)]
theorem zMade1 {i cN : Int32} {made : Nat → Int32} (hN : cN ≤ 14) (hi : 0 ≤ i ∧ i < cN) : fn_X4_madeOf i 1 cN made = some (made (2 * i + 1).toNatClampNeg) := by
  unfold fn_X4_madeOf
  rw [if_neg (by grind), if_neg (by grind), if_neg (by decide), if_neg (by decide), zg_in 28 (by decide +kernel) (by grind)]
theorem zAmt0 {i cN : Int32} {made : Nat → Int32} (hN : cN ≤ 14) (hi : 0 ≤ i ∧ i < cN) : fn_X4_amountOf i 0 cN made = some (made (2 * i + 0).toNatClampNeg).toInt64 := by
  unfold fn_X4_amountOf
  rw [if_neg (by grind), if_neg (by grind), if_neg (by decide), if_neg (by decide), zg_in 28 (by decide +kernel) (by grind)]
theorem zAmt1 {i cN : Int32} {made : Nat → Int32} (hN : cN ≤ 14) (hi : 0 ≤ i ∧ i < cN) : fn_X4_amountOf i 1 cN made = some (made (2 * i + 1).toNatClampNeg).toInt64 := by
  unfold fn_X4_amountOf
  rw [if_neg (by grind), if_neg (by grind), if_neg (by decide), if_neg (by decide), zg_in 28 (by decide +kernel) (by grind)]
theorem zif1 {c : Prop} [Decidable c] : ((if c then (1 : Int32) else 0) = 0) = ¬ c := by
  by_cases h : c
  · rw [if_pos h]; exact propext ⟨fun q => absurd q (by decide), fun q => absurd h q⟩
  · rw [if_neg h]; exact propext ⟨fun _ => h, fun _ => rfl⟩
theorem zeq_format {cF cc cN inp : Int32} {nF nN stp mst prc al made amt op fx jn lets mF mN mCst mNF mNN mS mM mC mW mO m1 m2 mX mG : Nat → Int32} {mA mB : Nat → Int64} {p1 p2 x y : Int32} (T : zTN cF cc cN inp nF nN stp mst prc al made amt op fx jn lets mF mN mNF mNN mS mM mC mW mCst mO m1 m2 mX mG mA mB) (h1 : fn_X11_format p1 p2 cF stp mst prc = some x) (h2 : fn_X12_format p1 p2 mF mC mM mS = some y) : x = y := by
  obtain ⟨⟨f1, f2, f3⟩, hN, hC, hz, hp, hI, hf, hn, hg⟩ := T
  unfold fn_X11_format at h1
  unfold fn_X12_format at h2
  rw [zHasF, zb_some] at h1
  rw [zIsFmt (by rw [f1]; exact f2), zb_some, f1] at h2
  by_cases c : 0 ≤ p1 ∧ p1 < cF
  · rw [if_neg (by rw [zif1]; exact fun q => q c)] at h1 h2
    obtain ⟨q1, q2, q3, q4, q5⟩ := hf p1 c.1 c.2
    by_cases d0 : p2 = 0
    · rw [if_pos d0] at h1 h2
      obtain ⟨-, h1⟩ := zg_s h1
      obtain ⟨-, h2⟩ := zg_s h2
      rw [← Option.some.inj h1, ← Option.some.inj h2]; exact q2
    · rw [if_neg d0] at h1 h2
      by_cases d1 : p2 = 1
      · rw [if_pos d1] at h1 h2
        obtain ⟨-, h1⟩ := zg_s h1
        obtain ⟨-, h2⟩ := zg_s h2
        rw [← Option.some.inj h1, ← Option.some.inj h2]; exact q3
      · rw [if_neg d1] at h1 h2
        by_cases d2 : p2 = 2
        · rw [if_pos d2] at h1 h2
          obtain ⟨-, h1⟩ := zg_s h1
          obtain ⟨-, h2⟩ := zg_s h2
          rw [← Option.some.inj h1, ← Option.some.inj h2]; exact q4
        · rw [if_neg d2] at h1 h2
          rw [← Option.some.inj h1, ← Option.some.inj h2]
  · rw [if_pos (by rw [zif1]; exact c)] at h1 h2
    rw [← Option.some.inj h1, ← Option.some.inj h2]
theorem zGrPl {mG : Nat → Int32} {p1 x : Int32} (hg : 0 ≤ mG p1.toNatClampNeg ∧ mG p1.toNatClampNeg ≤ 14) (h : fn_X12_groupPlace p1 mG = some x) : x = zRk mG (mG p1.toNatClampNeg).toNatClampNeg := by
  unfold fn_X12_groupPlace at h
  refine zcnt_loop (b := fun k => decide (mG k = Int32.ofNat k)) hg (fun c i back o hi ho => ?_) h
  obtain ⟨-, ho⟩ := zg_s ho
  try dsimp only at ho
  by_cases q : mG p1.toNatClampNeg ≤ i
  · rw [if_pos q] at ho
    exact Or.inl ⟨q, (Option.some.inj ho).symm⟩
  · rw [if_neg q] at ho
    obtain ⟨-, ho⟩ := zg_s ho
    by_cases d : mG i.toNatClampNeg = i
    · rw [if_pos d] at ho
      exact Or.inr (Or.inl ⟨by (first | ((try clear h); (try clear ho); grind) | grind), by rw [zofn' i hi]; exact decide_eq_true d, ho⟩)
    · rw [if_neg d] at ho
      exact Or.inr (Or.inr ⟨by (first | ((try clear h); (try clear ho); grind) | grind), by rw [zofn' i hi]; exact fun w => d (of_decide_eq_true w), ho⟩)
theorem zeq_number {cF cc cN inp gc gfr gcl : Int32} {nF nN stp mst prc al made amt op fx jn lets gof gfx gld mF mN mCst mNF mNN mS mM mC mW mO m1 m2 mX mG : Nat → Int32} {mA mB : Nat → Int64} {p1 p2 x y : Int32} (T : zTN cF cc cN inp nF nN stp mst prc al made amt op fx jn lets mF mN mNF mNN mS mM mC mW mCst mO m1 m2 mX mG mA mB) (G : zGp cN gc gfr gcl gof gfx gld fx mG) (h1 : fn_X11_number p1 p2 cN op made gof fx al = some x) (h2 : fn_X12_number_ p1 p2 mN mO m1 m2 mG mX mW = some y) : x = y := by
  obtain ⟨hF, ⟨n1, n2, n3⟩, hC, hz, hp, hI, hf, hn, hg⟩ := T
  unfold fn_X11_number at h1
  unfold fn_X12_number_ at h2
  rw [zHasN, zb_some] at h1
  rw [zIsNum (by rw [n1]; exact n2), zb_some, n1] at h2
  by_cases c : 0 ≤ p1 ∧ p1 < cN
  · rw [if_neg (by rw [zif1]; exact fun q => q c)] at h1 h2
    obtain ⟨q1, q2, q3, q4, q5, q6, q7⟩ := hn p1 c.1 c.2
    by_cases d0 : p2 = 0
    · rw [if_pos d0] at h1 h2
      obtain ⟨-, h1⟩ := zg_s h1
      obtain ⟨-, h2⟩ := zg_s h2
      rw [← Option.some.inj h1, ← Option.some.inj h2]; exact q2
    · rw [if_neg d0] at h1 h2
      by_cases d1 : p2 = 1
      · rw [if_pos d1] at h1 h2
        rw [zMade0 n3 c, zb_some] at h1
        obtain ⟨-, h2⟩ := zg_s h2
        rw [← Option.some.inj h1, ← Option.some.inj h2]; exact q5
      · rw [if_neg d1] at h1 h2
        by_cases d2 : p2 = 2
        · rw [if_pos d2] at h1 h2
          rw [zMade1 n3 c, zb_some] at h1
          obtain ⟨-, h2⟩ := zg_s h2
          rw [← Option.some.inj h1, ← Option.some.inj h2]; exact q6
        · rw [if_neg d2] at h1 h2
          by_cases d3 : p2 = 3
          · rw [if_pos d3] at h1 h2
            obtain ⟨-, h1⟩ := zg_s h1
            obtain ⟨z, hz, h2⟩ := zb_s h2
            have hgi := hg.1 p1 c.1 c.2
            have e := zGrPl ⟨hgi.1, by (first | ((try clear T); (try clear G); (try clear h1); (try clear h2); (try clear hC); (try clear hz); (try clear hI); (try clear hf); (try clear hn); (try clear hg); grind) | grind)⟩ hz
            rw [← Option.some.inj h1, ← Option.some.inj h2, e]
            exact G.1.2.1 p1 c.1 c.2
          · rw [if_neg d3] at h1 h2
            by_cases d4 : p2 = 4
            · rw [if_pos d4] at h1 h2
              obtain ⟨-, h1⟩ := zg_s h1
              obtain ⟨-, h2⟩ := zg_s h2
              rw [← Option.some.inj h1, ← Option.some.inj h2]; exact q3
            · rw [if_neg d4] at h1 h2
              by_cases d5 : p2 = 5
              · rw [if_pos d5] at h1 h2
                obtain ⟨-, h1⟩ := zg_s h1
                obtain ⟨-, h2⟩ := zg_s h2
                rw [← Option.some.inj h1, ← Option.some.inj h2]; exact q4
              · rw [if_neg d5] at h1 h2
                rw [← Option.some.inj h1, ← Option.some.inj h2]
  · rw [if_pos (by rw [zif1]; exact c)] at h1 h2
    rw [← Option.some.inj h1, ← Option.some.inj h2]
theorem zeq_told {cF cc cN inp : Int32} {nF nN stp mst prc al made amt op fx jn lets mF mN mCst mNF mNN mS mM mC mW mO m1 m2 mX mG : Nat → Int32} {mA mB : Nat → Int64} {p1 p2 : Int32} {x y : Int64} (T : zTN cF cc cN inp nF nN stp mst prc al made amt op fx jn lets mF mN mNF mNN mS mM mC mW mCst mO m1 m2 mX mG mA mB) (h1 : fn_X11_told p1 p2 cN made amt = some x) (h2 : fn_X12_told p1 p2 mN mO m2 m1 mB mA = some y) : x = y := by
  obtain ⟨hF, ⟨n1, n2, n3⟩, hC, hz, hp, hI, hf, hn, hg⟩ := T
  unfold fn_X11_told at h1
  unfold fn_X12_told at h2
  rw [zHasN, zb_some] at h1
  rw [zIsNum (by rw [n1]; exact n2), zb_some, n1] at h2
  by_cases c : 0 ≤ p1 ∧ p1 < cN
  · rw [if_neg (by rw [zif1]; exact fun q => q c)] at h1 h2
    obtain ⟨q1, q2, q3, q4, q5, q6, q7, q8, q9, q10, q11, q12, q13, q14, q15, q16, q17⟩ := hn p1 c.1 c.2
    simp only [zIsIn, zb_some, z64_ge0, zj] at h2
    have hin : p2.toInt64 ≤ (1 : Int64) ↔ p2 ≤ 1 := by rw [show (1 : Int64) = (1 : Int32).toInt64 by decide +kernel, z64_le]
    simp only [hin] at h2
    by_cases d : 0 ≤ p2 ∧ p2 ≤ 1
    · rw [if_neg (by rw [zif1]; exact fun q => q d)] at h2
      rw [if_neg (by (first | ((try clear T); (try clear h1); (try clear h2); (try clear hC); (try clear hI); (try clear hf); (try clear hn); (try clear hg); grind) | grind)), if_pos d.2] at h1
      obtain ⟨-, h2⟩ := zg_s h2
      by_cases d0 : p2 = 0
      · subst d0
        rw [zMade0 n3 c, zb_some, zAmt0 n3 c] at h1
        simp only [if_true, zb_some] at h1 h2
        by_cases e0 : made (2 * p1 + 0).toNatClampNeg = (-1)
        · rw [if_pos e0] at h1
          have h2' : y = mA p1.toNatClampNeg := by
            by_cases w : mO p1.toNatClampNeg = 0
            · rw [if_pos w] at h2
              obtain ⟨-, h2⟩ := zg_s h2
              exact (Option.some.inj h2).symm
            · rw [if_neg w, if_pos (q5.symm.trans e0)] at h2
              obtain ⟨-, h2⟩ := zg_s h2
              exact (Option.some.inj h2).symm
          rw [← Option.some.inj h1, h2', q7]
        · rw [if_neg e0] at h1
          have w : ¬ mO p1.toNatClampNeg = 0 := fun w => e0 (q16 (q2.trans w)).1
          rw [if_neg w, if_neg (fun u => e0 (q5.trans u))] at h2
          rw [← Option.some.inj h1, ← Option.some.inj h2]
      · have d1 : p2 = 1 := by (first | ((try clear T); (try clear h1); (try clear h2); (try clear hC); (try clear hI); (try clear hf); (try clear hn); (try clear hg); grind) | grind)
        subst d1
        rw [zMade1 n3 c, zb_some, zAmt1 n3 c] at h1
        simp only [if_neg d0, zb_some] at h1 h2
        by_cases e0 : made (2 * p1 + 1).toNatClampNeg = (-1)
        · rw [if_pos e0] at h1
          have h2' : y = mB p1.toNatClampNeg := by
            by_cases w : mO p1.toNatClampNeg = 0
            · rw [if_pos w] at h2
              obtain ⟨-, h2⟩ := zg_s h2
              exact (Option.some.inj h2).symm
            · rw [if_neg w, if_pos (q6.symm.trans e0)] at h2
              obtain ⟨-, h2⟩ := zg_s h2
              exact (Option.some.inj h2).symm
          rw [← Option.some.inj h1, h2', q8]
        · rw [if_neg e0] at h1
          have w : ¬ mO p1.toNatClampNeg = 0 := fun w => e0 (q16 (q2.trans w)).2.1
          rw [if_neg w, if_neg (fun u => e0 (q6.trans u))] at h2
          rw [← Option.some.inj h1, ← Option.some.inj h2]
    · rw [if_pos (by rw [zif1]; exact d)] at h2
      by_cases e : p2 < 0
      · rw [if_pos e] at h1
        rw [← Option.some.inj h1, ← Option.some.inj h2]
      · rw [if_neg e, if_neg (by (first | ((try clear T); (try clear h1); (try clear h2); (try clear hC); (try clear hI); (try clear hf); (try clear hn); (try clear hg); grind) | grind))] at h1
        rw [← Option.some.inj h1, ← Option.some.inj h2]
  · rw [if_pos (by rw [zif1]; exact c)] at h1 h2
    rw [← Option.some.inj h1, ← Option.some.inj h2]
theorem zDeepOf {p x : Int32} {f : Nat → Int32} (h : fn_X12_deepOf p f = some x) : x = if p = (-1) then 0 else f p.toNatClampNeg := by
  unfold fn_X12_deepOf at h
  by_cases c : p = (-1)
  · rw [if_pos c] at h ⊢
    exact (Option.some.inj h).symm
  · rw [if_neg c] at h ⊢
    obtain ⟨-, h⟩ := zg_s h
    exact (Option.some.inj h).symm
theorem zeq_depth {cF cc cN inp : Int32} {nF nN stp mst prc al made amt op fx jn lets mF mN mCst mNF mNN mS mM mC mW mO m1 m2 mX mG mDp : Nat → Int32} {mA mB : Nat → Int64} {p1 x : Int32} {y : Int32 × (Nat → Int32)} (T : zTN cF cc cN inp nF nN stp mst prc al made amt op fx jn lets mF mN mNF mNN mS mM mC mW mCst mO m1 m2 mX mG mA mB) (h1 : fn_X11_depth p1 cN lets = some x) (h2 : fn_X12_depth p1 mN m1 mDp m2 mO = some y) : x = y.1 := by
  obtain ⟨hF, ⟨n1, n2, n3⟩, hC, hz, hp, hI, hf, hn, hg⟩ := T
  unfold fn_X11_depth at h1
  unfold fn_X12_depth at h2
  rw [zHasN, zb_some] at h1
  rw [zIsNum (by rw [n1]; exact n2), zb_some, n1] at h2
  by_cases c : 0 ≤ p1 ∧ p1 < cN
  · rw [if_neg (by rw [zif1]; exact fun q => q c)] at h1 h2
    obtain ⟨-, h1⟩ := zg_s h1
    rw [← Option.some.inj h1]
    refine zl_ip (P := fun y : Int32 × (Nat → Int32) => lets p1.toNatClampNeg = y.1) (fun s => 0 ≤ s.1 ∧ s.1 ≤ p1 + 1 ∧ ∀ j : Int32, 0 ≤ j → j < s.1 → s.2 j.toNatClampNeg = lets j.toNatClampNeg) ?_ _ _ _ ?_ h2
    rotate_left
    · exact ⟨(show (0 : Int32) ≤ 0 by decide), (show 0 ≤ p1 + 1 by (first | ((try clear T); (try clear h1); (try clear h2); (try clear hC); (try clear hI); (try clear hf); (try clear hn); (try clear hg); grind) | grind)), fun j j1 j2 => absurd j2 (by show ¬ j < 0; (first | ((try clear T); (try clear h1); (try clear h2); (try clear hC); (try clear hI); (try clear hf); (try clear hn); (try clear hg); grind) | grind))⟩
    intro s back o ⟨H1, H2, H3⟩ hb ho
    obtain ⟨k, row⟩ := s
    dsimp only at H1 H2 H3 ho
    by_cases e : p1 < k
    · rw [if_pos e] at ho
      obtain ⟨-, ho⟩ := zg_s ho
      rw [← Option.some.inj ho]
      exact (H3 p1 c.1 e).symm
    · rw [if_neg e] at ho
      obtain ⟨-, ho⟩ := zg_s ho
      obtain ⟨a, ha, ho⟩ := zb_s ho
      obtain ⟨b, hb', ho⟩ := zb_s ho
      have ha := zDeepOf ha
      have hb' := zDeepOf hb'
      obtain ⟨q1, q2, q3, q4, q5, q6, q7, q8, q9, q10, q11, q12, q13, q14, q15, q16, q17⟩ := hn k H1 (by (first | ((try clear T); (try clear h1); (try clear h2); (try clear hC); (try clear hI); (try clear hf); (try clear hn); (try clear hg); (try clear hb); (try clear ho); grind) | grind))
      have ea : a = zLets k made lets 0 := by
        unfold zLets
        rw [ha, ← q5]
        by_cases w : made (2 * k + 0).toNatClampNeg = (-1)
        · rw [if_pos w, if_pos (Or.inl (by rw [w]; decide))]
        · rw [if_neg w, if_neg (by (first | ((try clear T); (try clear h1); (try clear h2); (try clear hC); (try clear hI); (try clear hf); (try clear hn); (try clear hg); (try clear hb); (try clear ho); grind) | grind)), H3 _ (by (first | ((try clear T); (try clear h1); (try clear h2); (try clear hC); (try clear hI); (try clear hf); (try clear hn); (try clear hg); (try clear hb); (try clear ho); grind) | grind)) q12.2]
      have eb : b = zLets k made lets 1 := by
        unfold zLets
        rw [hb', ← q6]
        by_cases w : made (2 * k + 1).toNatClampNeg = (-1)
        · rw [if_pos w, if_pos (Or.inl (by rw [w]; decide))]
        · rw [if_neg w, if_neg (by (first | ((try clear T); (try clear h1); (try clear h2); (try clear hC); (try clear hI); (try clear hf); (try clear hn); (try clear hg); (try clear hb); (try clear ho); grind) | grind)), H3 _ (by (first | ((try clear T); (try clear h1); (try clear h2); (try clear hC); (try clear hI); (try clear hf); (try clear hn); (try clear hg); (try clear hb); (try clear ho); grind) | grind)) q13.2]
      have fin : ∀ v : Int32, v = lets k.toNatClampNeg → back (k + 1, upd row k.toNatClampNeg v) = some o → lets p1.toNatClampNeg = o.1 := by
        intro v hv hbk
        refine hb _ _ ?_ hbk
        refine ⟨(show 0 ≤ k + 1 by (first | ((try clear T); (try clear h1); (try clear h2); (try clear hC); (try clear hI); (try clear hf); (try clear hn); (try clear hg); (try clear hb); (try clear ho); (try clear fin); grind) | grind)), (show k + 1 ≤ p1 + 1 by (first | ((try clear T); (try clear h1); (try clear h2); (try clear hC); (try clear hI); (try clear hf); (try clear hn); (try clear hg); (try clear hb); (try clear ho); (try clear fin); grind) | grind)), fun j j1 j2 => ?_⟩
        have j2 : j < k + 1 := j2
        show upd row k.toNatClampNeg v j.toNatClampNeg = lets j.toNatClampNeg
        rw [zup H1 j1]
        by_cases w : j = k
        · rw [if_pos w, hv, w]
        · rw [if_neg w]; exact H3 j j1 (by (first | ((try clear T); (try clear h1); (try clear h2); (try clear hC); (try clear hI); (try clear hf); (try clear hn); (try clear hg); (try clear hb); (try clear ho); (try clear fin); grind) | grind))
      unfold zDeep at q17
      rw [← ea, ← eb, q2] at q17
      by_cases w : mO k.toNatClampNeg = 0
      · rw [if_pos w] at ho q17
        obtain ⟨-, ho⟩ := zg_s ho
        exact fin 0 q17.symm ho
      · rw [if_neg w] at ho q17
        by_cases v : a ≤ b
        · rw [if_pos v] at ho
          obtain ⟨-, ho⟩ := zg_s ho
          refine fin (b + 1) ?_ ho
          rw [q17, Int32.add_comm]
          by_cases u : a < b
          · rw [if_pos u]
          · rw [if_neg u, show a = b by (first | ((try clear T); (try clear h1); (try clear h2); (try clear hC); (try clear hI); (try clear hf); (try clear hn); (try clear hg); (try clear hb); (try clear ho); (try clear fin); grind) | grind)]
        · rw [if_neg v] at ho
          obtain ⟨-, ho⟩ := zg_s ho
          refine fin (a + 1) ?_ ho
          rw [q17, Int32.add_comm, if_neg (by (first | ((try clear T); (try clear h1); (try clear h2); (try clear hC); (try clear hI); (try clear hf); (try clear hn); (try clear hg); (try clear hb); (try clear ho); (try clear fin); grind) | grind))]
  · rw [if_pos (by rw [zif1]; exact c)] at h1 h2
    rw [← Option.some.inj h1, ← Option.some.inj h2]
/-! has -/
theorem zCnt_c (op : Nat → Int32) : ∀ k : Nat, zCnt op k = zct (fun k => decide (op k = 0)) k := by
  intro k
  induction k with
  | zero => rfl
  | succ k ih =>
    show zCnt op k + (if op k = 0 then 1 else 0) = zct _ k + (if decide (op k = 0) = true then 1 else 0)
    rw [ih]
    by_cases c : op k = 0
    · rw [if_pos c, if_pos (decide_eq_true c)]
    · rw [if_neg c, if_neg (fun q => c (of_decide_eq_true q))]
theorem zIsFree {cN : Int32} {mN mX mG : Nat → Int32} {g x : Int32} (hN : mN 0 = cN ∧ 0 ≤ cN ∧ cN ≤ 14) (h : fn_X12_isFree g mN mG mX = some x) : x = 1 ∧ zFree cN mG mX g ∨ x = 0 ∧ ¬ zFree cN mG mX g := by
  unfold fn_X12_isFree at h
  rw [zn01.1, hN.1] at h
  refine zl_ip (P := fun x => x = 1 ∧ zFree cN mG mX g ∨ x = 0 ∧ ¬ zFree cN mG mX g) (fun s => 0 ≤ s ∧ ∀ o : Int32, 0 ≤ o → o < s → mG o.toNatClampNeg = g → mX o.toNatClampNeg = (-1)) ?_ _ _ _ ?_ h
  rotate_left
  · exact ⟨by decide, fun o o1 o2 => by (first | ((try clear h); grind) | grind)⟩
  intro s back o ⟨H1, H2⟩ hb ho
  have nxt : s < cN → (mG s.toNatClampNeg = g → mX s.toNatClampNeg = (-1)) → back (s + 1) = some o → (o = 1 ∧ zFree cN mG mX g ∨ o = 0 ∧ ¬ zFree cN mG mX g) := by
    intro k1 k2 k3
    refine hb _ _ ?_ k3
    refine ⟨by (first | ((try clear h); (try clear hb); (try clear ho); (try clear nxt); grind) | grind), fun j j1 j2 j3 => ?_⟩
    by_cases q : j = s
    · rw [q] at j3 ⊢; exact k2 j3
    · exact H2 j j1 (by (first | ((try clear h); (try clear hb); (try clear ho); (try clear nxt); grind) | grind)) j3
  by_cases c : cN ≤ s
  · rw [if_pos c] at ho
    exact Or.inl ⟨(Option.some.inj ho).symm, fun j j1 j2 j3 => H2 j j1 (by (first | ((try clear h); (try clear hb); (try clear ho); (try clear nxt); grind) | grind)) j3⟩
  · rw [if_neg c] at ho
    obtain ⟨-, ho⟩ := zg_s ho
    by_cases d : mG s.toNatClampNeg = g
    · rw [if_pos d] at ho
      by_cases e : mX s.toNatClampNeg = (-1)
      · rw [if_pos e] at ho
        exact nxt (by (first | ((try clear h); (try clear hb); (try clear ho); (try clear nxt); grind) | grind)) (fun _ => e) ho
      · rw [if_neg e] at ho
        exact Or.inr ⟨(Option.some.inj ho).symm, fun q => e (q s H1 (by (first | ((try clear h); (try clear hb); (try clear ho); (try clear nxt); grind) | grind)) d)⟩
    · rw [if_neg d] at ho
      exact nxt (by (first | ((try clear h); (try clear hb); (try clear ho); (try clear nxt); grind) | grind)) (fun q => absurd q d) ho
theorem zFree_c {cN g : Int32} {mG fx mX : Nat → Int32} (h : ∀ i : Int32, 0 ≤ i → i < cN → fx i.toNatClampNeg = mX i.toNatClampNeg) : zFree cN mG fx g ↔ zFree cN mG mX g :=
  ⟨fun q o o1 o2 o3 => (h o o1 o2).symm.trans (q o o1 o2 o3), fun q o o1 o2 o3 => (h o o1 o2).trans (q o o1 o2 o3)⟩
noncomputable def zFk (gfx mG : Nat → Int32) : Nat → Int32 := zct (fun k => decide (mG k = Int32.ofNat k ∧ gfx (zRk mG k).toNatClampNeg = (-1)))
theorem zFk_b {gfx mG : Nat → Int32} {k : Int32} (h0 : 0 ≤ k) (h : mG k.toNatClampNeg = k) (h2 : gfx (zRk mG k.toNatClampNeg).toNatClampNeg = (-1)) : decide (mG k.toNatClampNeg = Int32.ofNat k.toNatClampNeg ∧ gfx (zRk mG k.toNatClampNeg).toNatClampNeg = (-1)) = true := by
  rw [zofn' k h0]
  exact decide_eq_true ⟨h, h2⟩
theorem zLaysFree {cF cc cN inp gc gfr gcl : Int32} {nF nN stp mst prc al made amt op fx jn lets gof gfx gld mF mN mCst mNF mNN mS mM mC mW mO m1 m2 mX mG mFr : Nat → Int32} {mA mB : Nat → Int64} {x : Int32 × (Nat → Int32)} (T : zTN cF cc cN inp nF nN stp mst prc al made amt op fx jn lets mF mN mNF mNN mS mM mC mW mCst mO m1 m2 mX mG mA mB) (G : zGp cN gc gfr gcl gof gfx gld fx mG) (h : fn_X12_laysFree mN mG mX mFr = some x) : x.1 = zFk gfx mG cN.toNatClampNeg ∧ (∀ k : Int32, 0 ≤ k → k < cN → mG k.toNatClampNeg = k → gfx (zRk mG k.toNatClampNeg).toNatClampNeg = (-1) → x.2 (zFk gfx mG k.toNatClampNeg).toNatClampNeg = k) := by
  obtain ⟨hF, hN, hC, hz, hp, hI, hf, hn, hg⟩ := T
  have hfr : ∀ k : Int32, 0 ≤ k → k < cN → mG k.toNatClampNeg = k → (gfx (zRk mG k.toNatClampNeg).toNatClampNeg = (-1) ↔ zFree cN mG mX k) := fun k k1 k2 k3 => (zFxS_f (G.1.2.2.1 k k1 k2 k3).2).trans (zFree_c (fun i i1 i2 => (hn i i1 i2).2.2.1))
  unfold fn_X12_laysFree at h
  rw [zn01.1, hN.1] at h
  refine zl_ip (P := fun x : Int32 × (Nat → Int32) => x.1 = zFk gfx mG cN.toNatClampNeg ∧ (∀ k : Int32, 0 ≤ k → k < cN → mG k.toNatClampNeg = k → gfx (zRk mG k.toNatClampNeg).toNatClampNeg = (-1) → x.2 (zFk gfx mG k.toNatClampNeg).toNatClampNeg = k)) (fun s => 0 ≤ s.1 ∧ s.1 ≤ cN ∧ s.2.1 = zFk gfx mG s.1.toNatClampNeg ∧ (∀ k : Int32, 0 ≤ k → k < s.1 → mG k.toNatClampNeg = k → gfx (zRk mG k.toNatClampNeg).toNatClampNeg = (-1) → s.2.2 (zFk gfx mG k.toNatClampNeg).toNatClampNeg = k)) ?_ _ _ _ ?_ h
  rotate_left
  · exact ⟨(show (0 : Int32) ≤ 0 by decide), hN.2.1, by show (0 : Int32) = zct _ (0 : Int32).toNatClampNeg; rw [zn01.1]; rfl, fun k k1 k2 => absurd k2 (by show ¬ k < 0; (first | ((try clear T); (try clear G); (try clear h); (try clear hC); (try clear hI); (try clear hf); (try clear hn); (try clear hg); (try clear hfr); grind) | grind))⟩
  intro s back o ⟨H1, H2, H3, H4⟩ hb ho
  obtain ⟨k, n, row⟩ := s
  dsimp only at H1 H2 H3 H4 ho
  by_cases c : cN ≤ k
  · rw [if_pos c] at ho
    have e : k = cN := by (first | ((try clear T); (try clear G); (try clear h); (try clear hC); (try clear hI); (try clear hf); (try clear hn); (try clear hg); (try clear hfr); (try clear hb); (try clear ho); grind) | grind)
    subst e
    rw [← Option.some.inj ho]
    exact ⟨H3, H4⟩
  · rw [if_neg c] at ho
    obtain ⟨-, ho⟩ := zg_s ho
    have hk : k < cN := by (first | ((try clear T); (try clear G); (try clear h); (try clear hC); (try clear hI); (try clear hf); (try clear hn); (try clear hg); (try clear hfr); (try clear hb); (try clear ho); grind) | grind)
    have skip : ¬ (mG k.toNatClampNeg = k ∧ gfx (zRk mG k.toNatClampNeg).toNatClampNeg = (-1)) → back (k + 1, n, row) = some o → (o.1 = zFk gfx mG cN.toNatClampNeg ∧ (∀ k : Int32, 0 ≤ k → k < cN → mG k.toNatClampNeg = k → gfx (zRk mG k.toNatClampNeg).toNatClampNeg = (-1) → o.2 (zFk gfx mG k.toNatClampNeg).toNatClampNeg = k)) := by
      intro w hbk
      refine hb _ _ ?_ hbk
      refine ⟨(show 0 ≤ k + 1 by (first | ((try clear T); (try clear G); (try clear h); (try clear hC); (try clear hI); (try clear hf); (try clear hn); (try clear hg); (try clear hfr); (try clear hb); (try clear ho); (try clear skip); grind) | grind)), (show k + 1 ≤ cN by (first | ((try clear T); (try clear G); (try clear h); (try clear hC); (try clear hI); (try clear hf); (try clear hn); (try clear hg); (try clear hfr); (try clear hb); (try clear ho); (try clear skip); grind) | grind)), ?_, fun j j1 j2 j3 j4 => ?_⟩
      · show n = zct _ (k + 1).toNatClampNeg
        rw [zct_f H1 (by (first | ((try clear T); (try clear G); (try clear h); (try clear hC); (try clear hI); (try clear hf); (try clear hn); (try clear hg); (try clear hfr); (try clear hb); (try clear ho); (try clear skip); grind) | grind)) (by rw [zofn' k H1]; exact fun q => w (of_decide_eq_true q))]
        exact H3
      · have j2 : j < k + 1 := j2
        by_cases q : j = k
        · rw [q] at j3 j4; exact absurd ⟨j3, j4⟩ w
        · exact H4 j j1 (by (first | ((try clear T); (try clear G); (try clear h); (try clear hC); (try clear hI); (try clear hf); (try clear hn); (try clear hg); (try clear hfr); (try clear hb); (try clear ho); (try clear skip); grind) | grind)) j3 j4
    by_cases d : mG k.toNatClampNeg = k
    · rw [if_pos d] at ho
      obtain ⟨z, hz, ho⟩ := zb_s ho
      rcases zIsFree hN hz with ⟨z1, z2⟩ | ⟨z1, z2⟩
      · rw [if_neg (by rw [z1]; decide)] at ho
        obtain ⟨-, ho⟩ := zg_s ho
        have g1 := (hfr k H1 hk d).mpr z2
        refine hb _ _ ?_ ho
        refine ⟨(show 0 ≤ k + 1 by (first | ((try clear T); (try clear G); (try clear h); (try clear hC); (try clear hz); (try clear hI); (try clear hf); (try clear hn); (try clear hg); (try clear hfr); (try clear hb); (try clear ho); (try clear skip); grind) | grind)), (show k + 1 ≤ cN by (first | ((try clear T); (try clear G); (try clear h); (try clear hC); (try clear hz); (try clear hI); (try clear hf); (try clear hn); (try clear hg); (try clear hfr); (try clear hb); (try clear ho); (try clear skip); grind) | grind)), ?_, fun j j1 j2 j3 j4 => ?_⟩
        · show n + 1 = zct _ (k + 1).toNatClampNeg
          rw [zct_t H1 (by (first | ((try clear T); (try clear G); (try clear h); (try clear hC); (try clear hz); (try clear hI); (try clear hf); (try clear hn); (try clear hg); (try clear hfr); (try clear hb); (try clear ho); (try clear skip); grind) | grind)) (zFk_b H1 d g1), H3]
          rfl
        · have j2 : j < k + 1 := j2
          have nk : 0 ≤ zFk gfx mG k.toNatClampNeg := (zct_b32 H1 (show k ≤ 14 by (first | ((try clear T); (try clear G); (try clear h); (try clear hC); (try clear hz); (try clear hI); (try clear hf); (try clear hn); (try clear hg); (try clear hfr); (try clear hb); (try clear ho); (try clear skip); grind) | grind))).1
          have nj : 0 ≤ zFk gfx mG j.toNatClampNeg := (zct_b32 j1 (show j ≤ 14 by (first | ((try clear T); (try clear G); (try clear h); (try clear hC); (try clear hz); (try clear hI); (try clear hf); (try clear hn); (try clear hg); (try clear hfr); (try clear hb); (try clear ho); (try clear skip); grind) | grind))).1
          show upd row n.toNatClampNeg k (zFk gfx mG j.toNatClampNeg).toNatClampNeg = j
          rw [H3, zup nk nj]
          by_cases q : j = k
          · rw [if_pos (by rw [q]), q]
          · have lt : zFk gfx mG j.toNatClampNeg < zFk gfx mG k.toNatClampNeg := zct_lt j1 (show j < k by (first | ((try clear T); (try clear G); (try clear h); (try clear hC); (try clear hz); (try clear hI); (try clear hf); (try clear hn); (try clear hg); (try clear hfr); (try clear hb); (try clear ho); (try clear skip); grind) | grind)) (by (first | ((try clear T); (try clear G); (try clear h); (try clear hC); (try clear hz); (try clear hI); (try clear hf); (try clear hn); (try clear hg); (try clear hfr); (try clear hb); (try clear ho); (try clear skip); grind) | grind)) (zFk_b j1 j3 j4)
            rw [if_neg (fun w => by rw [w] at lt; exact absurd lt (by (first | ((try clear T); (try clear G); (try clear h); (try clear hC); (try clear hz); (try clear hI); (try clear hf); (try clear hn); (try clear hg); (try clear hfr); (try clear hb); (try clear ho); (try clear skip); grind) | grind)))]
            exact H4 j j1 (by (first | ((try clear T); (try clear G); (try clear h); (try clear hC); (try clear hz); (try clear hI); (try clear hf); (try clear hn); (try clear hg); (try clear hfr); (try clear hb); (try clear ho); (try clear skip); grind) | grind)) j3 j4
      · rw [if_pos z1] at ho
        exact skip (fun q => z2 ((hfr k H1 hk d).mp q.2)) ho
    · rw [if_neg d] at ho
      exact skip (fun q => d q.1) ho
theorem zInputs {mN mO : Nat → Int32} {x : Int32} (hN : 0 ≤ mN 0 ∧ mN 0 ≤ 14) (h : fn_X12_inputs mN mO = some x) : x = zct (fun k => decide (mO k = 0)) (mN 0).toNatClampNeg := by
  unfold fn_X12_inputs at h
  rw [zn01.1] at h
  refine zcnt_loop hN (fun c i back o hi ho => ?_) h
  try dsimp only at ho
  by_cases q : mN 0 ≤ i
  · rw [if_pos q] at ho
    exact Or.inl ⟨q, (Option.some.inj ho).symm⟩
  · rw [if_neg q] at ho
    obtain ⟨-, ho⟩ := zg_s ho
    by_cases d : mO i.toNatClampNeg = 0
    · rw [if_pos d] at ho
      exact Or.inr (Or.inl ⟨by (first | ((try clear h); (try clear ho); grind) | grind), decide_eq_true d, ho⟩)
    · rw [if_neg d] at ho
      exact Or.inr (Or.inr ⟨by (first | ((try clear h); (try clear ho); grind) | grind), fun w => d (of_decide_eq_true w), ho⟩)
theorem zAnswers {mN mW : Nat → Int32} {x : Int32} (hN : 0 ≤ mN 0 ∧ mN 0 ≤ 14) (h : fn_X12_answers mN mW = some x) : x = zct (fun k => decide (¬ mW k = (-1))) (mN 0).toNatClampNeg := by
  unfold fn_X12_answers at h
  rw [zn01.1] at h
  refine zcnt_loop hN (fun c i back o hi ho => ?_) h
  try dsimp only at ho
  by_cases q : mN 0 ≤ i
  · rw [if_pos q] at ho
    exact Or.inl ⟨q, (Option.some.inj ho).symm⟩
  · rw [if_neg q] at ho
    obtain ⟨-, ho⟩ := zg_s ho
    by_cases d : mW i.toNatClampNeg = (-1)
    · rw [if_pos d] at ho
      exact Or.inr (Or.inr ⟨by (first | ((try clear h); (try clear ho); grind) | grind), fun w => (of_decide_eq_true w) d, ho⟩)
    · rw [if_neg d] at ho
      exact Or.inr (Or.inl ⟨by (first | ((try clear h); (try clear ho); grind) | grind), decide_eq_true d, ho⟩)
theorem zGroupsM {mN mG : Nat → Int32} {x : Int32} (hN : 0 ≤ mN 0 ∧ mN 0 ≤ 14) (h : fn_X12_groups mN mG = some x) : x = zRk mG (mN 0).toNatClampNeg := by
  unfold fn_X12_groups at h
  rw [zn01.1] at h
  refine zcnt_loop (b := fun k => decide (mG k = Int32.ofNat k)) hN (fun c i back o hi ho => ?_) h
  try dsimp only at ho
  by_cases q : mN 0 ≤ i
  · rw [if_pos q] at ho
    exact Or.inl ⟨q, (Option.some.inj ho).symm⟩
  · rw [if_neg q] at ho
    obtain ⟨-, ho⟩ := zg_s ho
    by_cases d : mG i.toNatClampNeg = i
    · rw [if_pos d] at ho
      exact Or.inr (Or.inl ⟨by (first | ((try clear h); (try clear ho); grind) | grind), by rw [zofn' i hi]; exact decide_eq_true d, ho⟩)
    · rw [if_neg d] at ho
      exact Or.inr (Or.inr ⟨by (first | ((try clear h); (try clear ho); grind) | grind), by rw [zofn' i hi]; exact fun w => d (of_decide_eq_true w), ho⟩)
theorem zCountA {n p x : Int32} {al : Nat → Int32} (hp : 0 ≤ p ∧ p ≤ n ∧ n ≤ 14) (h : fn_X4_countAnswers p n al = some x) : x = zct (fun k => decide (¬ al k = (-1))) p.toNatClampNeg := by
  unfold fn_X4_countAnswers at h
  refine zcnt_loop ⟨hp.1, by (first | ((try clear h); grind) | grind)⟩ (fun c i back o hi ho => ?_) h
  try dsimp only at ho
  by_cases q : p ≤ i
  · rw [if_pos q] at ho
    exact Or.inl ⟨q, (Option.some.inj ho).symm⟩
  · rw [if_neg q, if_neg (by (first | ((try clear h); (try clear ho); grind) | grind))] at ho
    obtain ⟨-, ho⟩ := zg_s ho
    by_cases d : al i.toNatClampNeg = (-1)
    · rw [if_pos d] at ho
      exact Or.inr (Or.inr ⟨by (first | ((try clear h); (try clear ho); grind) | grind), fun w => (of_decide_eq_true w) d, ho⟩)
    · rw [if_neg d] at ho
      exact Or.inr (Or.inl ⟨by (first | ((try clear h); (try clear ho); grind) | grind), decide_eq_true d, ho⟩)
theorem zeq_has {cF cc cN inp gc gfr gcl mSd sd : Int32} {nF nN stp mst prc al made amt op fx jn lets gof gfx gld mF mN mCst mNF mNN mS mM mC mW mO m1 m2 mX mG mFr : Nat → Int32} {mA mB : Nat → Int64} {p1 x : Int32} {y : Int32 × Int32 × (Nat → Int32)} (T : zTN cF cc cN inp nF nN stp mst prc al made amt op fx jn lets mF mN mNF mNN mS mM mC mW mCst mO m1 m2 mX mG mA mB) (G : zGp cN gc gfr gcl gof gfx gld fx mG) (hs : sd = mSd) (h1 : fn_X11_has p1 sd cF cc cN inp al gc gfr = some x) (h2 : fn_X12_has p1 mSd mN mG mX mFr mF mO mW mCst = some y) : x = y.1 := by
  have T0 := T
  obtain ⟨hF, ⟨n1, n2, n3⟩, hC, hz, hp, hI, hf, hn, hg⟩ := T
  have hN0 : 0 ≤ mN 0 ∧ mN 0 ≤ 14 := by rw [n1]; exact ⟨n2, n3⟩
  unfold fn_X11_has at h1
  unfold fn_X12_has at h2
  obtain ⟨w, hw, h2⟩ := zb_s h2
  rw [zn01.1] at h2
  by_cases d0 : p1 = 0
  · rw [if_pos d0] at h1 h2
    rw [← Option.some.inj h1, ← Option.some.inj h2]; exact n1.symm
  · rw [if_neg d0] at h1 h2
    by_cases d1 : p1 = 1
    · rw [if_pos d1] at h1 h2
      rw [← Option.some.inj h1, ← Option.some.inj h2]; exact hF.1.symm
    · rw [if_neg d1] at h1 h2
      by_cases d2 : p1 = 2
      · rw [if_pos d2] at h1 h2
        obtain ⟨z, hz2, h2⟩ := zb_s h2
        have e := zInputs hN0 hz2
        rw [← Option.some.inj h1, ← Option.some.inj h2, hI, zCnt_c]
        show _ = z
        rw [e, n1]
        refine zct_c _ (fun j hj => ?_)
        obtain ⟨j1, j2, j3⟩ := zof n2 hj
        have := (hn _ j1 j2).2.1
        rw [j3] at this
        rw [this]
      · rw [if_neg d2] at h1 h2
        by_cases d3 : p1 = 3
        · rw [if_pos d3] at h1 h2
          obtain ⟨z, hz2, h2⟩ := zb_s h2
          obtain ⟨z', hz1, h1⟩ := zb_s h1
          have e := zAnswers hN0 hz2
          have e' := zCountA ⟨n2, by (first | ((try clear T); (try clear G); (try clear h1); (try clear h2); (try clear hC); (try clear hI); (try clear hf); (try clear hn); (try clear hg); (try clear hw); (try clear hz2); (try clear hj); (try clear hz1); grind) | grind), n3⟩ hz1
          rw [← Option.some.inj h1, ← Option.some.inj h2]
          show z' = z
          rw [e, e', n1]
          refine zct_c _ (fun j hj => ?_)
          obtain ⟨j1, j2, j3⟩ := zof n2 hj
          have := (hn _ j1 j2).2.2.2.1
          rw [j3] at this
          rw [this]
        · rw [if_neg d3] at h1 h2
          by_cases d4 : p1 = 4
          · rw [if_pos d4] at h1 h2
            obtain ⟨z, hz2, h2⟩ := zb_s h2
            have e := zGroupsM hN0 hz2
            rw [← Option.some.inj h1, ← Option.some.inj h2]
            show gc = z
            rw [e, n1]; exact G.1.1
          · rw [if_neg d4] at h1 h2
            by_cases d5 : p1 = 5
            · rw [if_pos d5] at h1 h2
              have e := (zLaysFree T0 G hw).1
              rw [← Option.some.inj h1, ← Option.some.inj h2]
              show gfr = w.1
              rw [e, G.2, G.1.1]
              have l14 : cN.toNatClampNeg ≤ 14 := by have := zcle n2 n3; rw [show (14 : Int32).toNatClampNeg = 14 by decide +kernel] at this; exact this
              exact zFreeC gfx mG cN.toNatClampNeg l14
            · rw [if_neg d5] at h1 h2
              by_cases d6 : p1 = 6
              · rw [if_pos d6] at h1 h2
                by_cases e : mN 0 = 0
                · rw [if_pos e] at h2
                  rw [← Option.some.inj h1, ← Option.some.inj h2]; exact hz (n1.symm.trans e)
                · rw [if_neg e] at h2
                  rw [← Option.some.inj h1, ← Option.some.inj h2]; exact hC.1.symm
              · rw [if_neg d6] at h1 h2
                by_cases d7 : p1 = 7
                · rw [if_pos d7] at h1 h2
                  rw [← Option.some.inj h1, ← Option.some.inj h2]; exact hs
                · rw [if_neg d7] at h1 h2
                  rw [← Option.some.inj h1, ← Option.some.inj h2]
/-! letters of a NAME; what is made from a NUMBER -/
theorem zq {n d q r : Int} (hd : 0 < d) (h : n = q * d + r) (h0 : 0 ≤ r) (h1 : r < d) : n / d = q := by
  rw [h, Int.add_comm, Int.add_mul_ediv_right _ _ (by omega), Int.ediv_eq_zero_of_lt h0 h1, Int.zero_add]
theorem zshr {c s : Int32} (j : Nat) (D : Int) (hD : ((2 ^ j : Nat) : Int) = D) (hs : (c >>> s).toBitVec = c.toBitVec.sshiftRight j) (h : 0 ≤ c.toInt) : ((c >>> s) &&& 31).toInt = (c.toInt / D) % 32 := by
  rw [← hD]
  have hm : c.toBitVec.msb = false := by
    rw [BitVec.msb_eq_toInt]
    exact decide_eq_false (by show ¬ c.toInt < 0; omega)
  have e : ((c >>> s) &&& 31).toBitVec.toNat = (c.toBitVec.toNat / 2 ^ j) % 32 := by
    rw [Int32.toBitVec_and, BitVec.toNat_and, hs, BitVec.sshiftRight_eq_of_msb_false hm, BitVec.toNat_ushiftRight, Nat.shiftRight_eq_div_pow, show (31 : Int32).toBitVec.toNat = 2 ^ 5 - 1 by decide +kernel]
    exact Nat.and_two_pow_sub_one_eq_mod _ 5
  have hl := Nat.mod_lt (c.toBitVec.toNat / 2 ^ j) (show 0 < 32 by decide)
  rw [ztoI e (by omega), ← zposN h, Int.natCast_emod, Int.natCast_ediv]
  rfl
theorem zNm_let {c m k : Int32} (h : zNm c m) (h0 : 0 ≤ k) (h1 : k < 6) : (c >>> ((5 * (5 - k)) &&& 31)) &&& 31 = (m >>> ((5 * k) &&& 31)) &&& 31 := by
  obtain ⟨l, hl, hc, hm⟩ := h
  have b0 := hl 0
  have b1 := hl 1
  have b2 := hl 2
  have b3 := hl 3
  have b4 := hl 4
  have b5 := hl 5
  unfold zCV at hc
  unfold zMV at hm
  have hc0 : 0 ≤ c.toInt := by omega
  have hm0 : 0 ≤ m.toInt := by omega
  have hk : k = 0 ∨ k = 1 ∨ k = 2 ∨ k = 3 ∨ k = 4 ∨ k = 5 := by (first | ((try clear h); grind) | grind)
  apply Int32.toInt_inj.mp
  rcases hk with rfl | rfl | rfl | rfl | rfl | rfl
  · rw [show (5 * (5 - 0) &&& 31 : Int32) = 25 by decide +kernel, show (5 * 0 &&& 31 : Int32) = 0 by decide +kernel, zshr 25 33554432 (by decide) rfl hc0, zshr 0 1 (by decide) rfl hm0, zq (q := l 0 * 1) (r := l 1 * 1048576 + l 2 * 32768 + l 3 * 1024 + l 4 * 32 + l 5 * 1) (by decide) (by rw [hc]; omega) (by omega) (by omega), zq (q := l 0 * 1 + l 1 * 32 + l 2 * 1024 + l 3 * 32768 + l 4 * 1048576 + l 5 * 33554432) (r := 0) (by decide) (by rw [hm]; omega) (by omega) (by omega)]
    omega
  · rw [show (5 * (5 - 1) &&& 31 : Int32) = 20 by decide +kernel, show (5 * 1 &&& 31 : Int32) = 5 by decide +kernel, zshr 20 1048576 (by decide) rfl hc0, zshr 5 32 (by decide) rfl hm0, zq (q := l 0 * 32 + l 1 * 1) (r := l 2 * 32768 + l 3 * 1024 + l 4 * 32 + l 5 * 1) (by decide) (by rw [hc]; omega) (by omega) (by omega), zq (q := l 1 * 1 + l 2 * 32 + l 3 * 1024 + l 4 * 32768 + l 5 * 1048576) (r := l 0 * 1) (by decide) (by rw [hm]; omega) (by omega) (by omega)]
    omega
  · rw [show (5 * (5 - 2) &&& 31 : Int32) = 15 by decide +kernel, show (5 * 2 &&& 31 : Int32) = 10 by decide +kernel, zshr 15 32768 (by decide) rfl hc0, zshr 10 1024 (by decide) rfl hm0, zq (q := l 0 * 1024 + l 1 * 32 + l 2 * 1) (r := l 3 * 1024 + l 4 * 32 + l 5 * 1) (by decide) (by rw [hc]; omega) (by omega) (by omega), zq (q := l 2 * 1 + l 3 * 32 + l 4 * 1024 + l 5 * 32768) (r := l 0 * 1 + l 1 * 32) (by decide) (by rw [hm]; omega) (by omega) (by omega)]
    omega
  · rw [show (5 * (5 - 3) &&& 31 : Int32) = 10 by decide +kernel, show (5 * 3 &&& 31 : Int32) = 15 by decide +kernel, zshr 10 1024 (by decide) rfl hc0, zshr 15 32768 (by decide) rfl hm0, zq (q := l 0 * 32768 + l 1 * 1024 + l 2 * 32 + l 3 * 1) (r := l 4 * 32 + l 5 * 1) (by decide) (by rw [hc]; omega) (by omega) (by omega), zq (q := l 3 * 1 + l 4 * 32 + l 5 * 1024) (r := l 0 * 1 + l 1 * 32 + l 2 * 1024) (by decide) (by rw [hm]; omega) (by omega) (by omega)]
    omega
  · rw [show (5 * (5 - 4) &&& 31 : Int32) = 5 by decide +kernel, show (5 * 4 &&& 31 : Int32) = 20 by decide +kernel, zshr 5 32 (by decide) rfl hc0, zshr 20 1048576 (by decide) rfl hm0, zq (q := l 0 * 1048576 + l 1 * 32768 + l 2 * 1024 + l 3 * 32 + l 4 * 1) (r := l 5 * 1) (by decide) (by rw [hc]; omega) (by omega) (by omega), zq (q := l 4 * 1 + l 5 * 32) (r := l 0 * 1 + l 1 * 32 + l 2 * 1024 + l 3 * 32768) (by decide) (by rw [hm]; omega) (by omega) (by omega)]
    omega
  · rw [show (5 * (5 - 5) &&& 31 : Int32) = 0 by decide +kernel, show (5 * 5 &&& 31 : Int32) = 25 by decide +kernel, zshr 0 1 (by decide) rfl hc0, zshr 25 33554432 (by decide) rfl hm0, zq (q := l 0 * 33554432 + l 1 * 1048576 + l 2 * 32768 + l 3 * 1024 + l 4 * 32 + l 5 * 1) (r := 0) (by decide) (by rw [hc]; omega) (by omega) (by omega), zq (q := l 5 * 1) (r := l 0 * 1 + l 1 * 32 + l 2 * 1024 + l 3 * 32768 + l 4 * 1048576) (by decide) (by rw [hm]; omega) (by omega) (by omega)]
    omega
theorem zeq_letter {cF cc cN inp : Int32} {nF nN stp mst prc al made amt op fx jn lets mF mN mCst mNF mNN mS mM mC mW mO m1 m2 mX mG : Nat → Int32} {mA mB : Nat → Int64} {p1 p2 p3 x y : Int32} (T : zTN cF cc cN inp nF nN stp mst prc al made amt op fx jn lets mF mN mNF mNN mS mM mC mW mCst mO m1 m2 mX mG mA mB) (h1 : fn_X11_letter p1 p2 p3 cF cN nN nF = some x) (h2 : fn_X12_letter p1 p2 p3 mN mF mNN mNF = some y) : x = y := by
  obtain ⟨⟨f1, f2, f3⟩, ⟨n1, n2, n3⟩, hC, hz, hp, hI, hf, hn, hg⟩ := T
  unfold fn_X11_letter at h1
  unfold fn_X12_letter at h2
  have hin : p3.toInt64 ≤ (5 : Int64) ↔ p3 ≤ 5 := by rw [show (5 : Int64) = (5 : Int32).toInt64 by decide +kernel, z64_le]
  simp only [zj, zHasN, zHasF, zb_some, fn_X11_letterOf] at h1
  simp only [zj, zIsNum (show 0 ≤ mN 0 by rw [n1]; exact n2), zIsFmt (show 0 ≤ mF 0 by rw [f1]; exact f2), zb_some, zIsIn, z64_ge0, hin, n1, f1] at h2
  by_cases c : p2 = 0
  · simp only [if_pos c] at h1 h2
    by_cases d : 0 ≤ p1 ∧ p1 < cN
    · rw [if_neg (by rw [zif1]; exact fun q => q d)] at h1 h2
      by_cases e : 0 ≤ p3 ∧ p3 ≤ 5
      · rw [if_neg (by rw [zif1]; exact fun q => q e)] at h2
        rw [if_neg (by (first | ((try clear T); (try clear h1); (try clear h2); (try clear hC); (try clear hI); (try clear hf); (try clear hn); (try clear hg); grind) | grind)), if_pos (by (first | ((try clear T); (try clear h1); (try clear h2); (try clear hC); (try clear hI); (try clear hf); (try clear hn); (try clear hg); grind) | grind))] at h1
        obtain ⟨-, h1⟩ := zg_s h1
        obtain ⟨-, h2⟩ := zg_s h2
        rw [← Option.some.inj h1, ← Option.some.inj h2]
        exact zNm_let (hn p1 d.1 d.2).1 e.1 (by (first | ((try clear T); (try clear h1); (try clear h2); (try clear hC); (try clear hI); (try clear hf); (try clear hn); (try clear hg); grind) | grind))
      · rw [if_pos (by rw [zif1]; exact e)] at h2
        have h1' : x = (-1) := by
          by_cases w : p3 < 0
          · rw [if_pos w] at h1; exact (Option.some.inj h1).symm
          · rw [if_neg w, if_neg (by (first | ((try clear T); (try clear h1); (try clear h2); (try clear hC); (try clear hI); (try clear hf); (try clear hn); (try clear hg); grind) | grind))] at h1; exact (Option.some.inj h1).symm
        rw [h1', ← Option.some.inj h2]
    · rw [if_pos (by rw [zif1]; exact d)] at h1 h2
      rw [← Option.some.inj h1, ← Option.some.inj h2]
  · simp only [if_neg c] at h1 h2
    by_cases d : 0 ≤ p1 ∧ p1 < cF
    · rw [if_neg (by rw [zif1]; exact fun q => q d)] at h1 h2
      by_cases e : 0 ≤ p3 ∧ p3 ≤ 5
      · rw [if_neg (by rw [zif1]; exact fun q => q e)] at h2
        rw [if_neg (by (first | ((try clear T); (try clear h1); (try clear h2); (try clear hC); (try clear hI); (try clear hf); (try clear hn); (try clear hg); grind) | grind)), if_pos (by (first | ((try clear T); (try clear h1); (try clear h2); (try clear hC); (try clear hI); (try clear hf); (try clear hn); (try clear hg); grind) | grind))] at h1
        obtain ⟨-, h1⟩ := zg_s h1
        obtain ⟨-, h2⟩ := zg_s h2
        rw [← Option.some.inj h1, ← Option.some.inj h2]
        exact zNm_let (hf p1 d.1 d.2).1 e.1 (by (first | ((try clear T); (try clear h1); (try clear h2); (try clear hC); (try clear hI); (try clear hf); (try clear hn); (try clear hg); grind) | grind))
      · rw [if_pos (by rw [zif1]; exact e)] at h2
        have h1' : x = (-1) := by
          by_cases w : p3 < 0
          · rw [if_pos w] at h1; exact (Option.some.inj h1).symm
          · rw [if_neg w, if_neg (by (first | ((try clear T); (try clear h1); (try clear h2); (try clear hC); (try clear hI); (try clear hf); (try clear hn); (try clear hg); grind) | grind))] at h1; exact (Option.some.inj h1).symm
        rw [h1', ← Option.some.inj h2]
    · rw [if_pos (by rw [zif1]; exact d)] at h1 h2
      rw [← Option.some.inj h1, ← Option.some.inj h2]
/-! sets of NUMBERS as bits -/
noncomputable def zbt (x : Int32) (k : Nat) : Bool := x.toBitVec.getLsbD k
theorem zp14 {p : Int32} (h : 0 ≤ p ∧ p < 14) : ((p &&& 31).toBitVec.smod 32).toNat = p.toNatClampNeg ∧ (1 <<< (p &&& 31) : Int32).toBitVec = BitVec.twoPow 32 p.toNatClampNeg ∧ p.toNatClampNeg < 32 := by
  have hk : p = 0 ∨ p = 1 ∨ p = 2 ∨ p = 3 ∨ p = 4 ∨ p = 5 ∨ p = 6 ∨ p = 7 ∨ p = 8 ∨ p = 9 ∨ p = 10 ∨ p = 11 ∨ p = 12 ∨ p = 13 := by grind
  rcases hk with rfl | rfl | rfl | rfl | rfl | rfl | rfl | rfl | rfl | rfl | rfl | rfl | rfl | rfl <;> decide +kernel
theorem zbt_sh (x p : Int32) : (x >>> (p &&& 31)).toBitVec = x.toBitVec.sshiftRight ((p &&& 31).toBitVec.smod 32).toNat := rfl
theorem zbt_and {x p : Int32} (h : 0 ≤ p ∧ p < 14) : ((x >>> (p &&& 31)) &&& 1 = 1) ↔ zbt x p.toNatClampNeg = true := by
  obtain ⟨e1, e2, e3⟩ := zp14 h
  have e4 : ((x >>> (p &&& 31)) &&& 1).toBitVec = x.toBitVec.sshiftRight p.toNatClampNeg &&& 1#32 := by
    rw [Int32.toBitVec_and, zbt_sh, e1]
    rfl
  have e5 : ∀ i : Nat, (x.toBitVec.sshiftRight p.toNatClampNeg &&& 1#32).getLsbD i = (decide (i = 0) && zbt x p.toNatClampNeg) := by
    intro i
    rw [BitVec.getLsbD_and, BitVec.getLsbD_sshiftRight, BitVec.getLsbD_one]
    by_cases q : i = 0
    · subst q
      simp [zbt, e3]
    · simp [q]
  constructor
  · intro q
    have q1 : (x.toBitVec.sshiftRight p.toNatClampNeg &&& 1#32) = 1#32 := by rw [← e4, q]; rfl
    have q2 := e5 0
    rw [q1] at q2
    simpa using q2.symm
  · intro q
    apply Int32.toBitVec_inj.mp
    rw [e4]
    show _ = 1#32
    apply BitVec.eq_of_getLsbD_eq
    intro i hi
    rw [e5 i, q, BitVec.getLsbD_one]
    simp
theorem zbt_or {x p : Int32} (h : 0 ≤ p ∧ p < 14) (k : Nat) : zbt (x ||| (1 <<< (p &&& 31))) k = (zbt x k || decide (p.toNatClampNeg = k)) := by
  obtain ⟨e1, e2, e3⟩ := zp14 h
  show (x ||| (1 <<< (p &&& 31))).toBitVec.getLsbD k = _
  rw [Int32.toBitVec_or, e2, BitVec.getLsbD_or, BitVec.getLsbD_twoPow]
  simp [zbt, e3]
theorem zbt_fin {x p : Int32} (h : 0 ≤ p ∧ p < 14) (h0 : zbt x p.toNatClampNeg = false) : (x ||| (1 <<< (p &&& 31))) &&& ((1 <<< (p &&& 31)) ^^^ (-1)) = x := by
  obtain ⟨e1, e2, e3⟩ := zp14 h
  apply Int32.toBitVec_inj.mp
  rw [Int32.toBitVec_and, Int32.toBitVec_or, Int32.toBitVec_xor, e2, show (-1 : Int32).toBitVec = BitVec.allOnes 32 by decide +kernel]
  apply BitVec.eq_of_getLsbD_eq
  intro i hi
  rw [BitVec.getLsbD_and, BitVec.getLsbD_or, BitVec.getLsbD_xor, BitVec.getLsbD_twoPow, BitVec.getLsbD_allOnes]
  by_cases q : p.toNatClampNeg = i
  · subst q
    have h0 : x.toBitVec.getLsbD p.toNatClampNeg = false := h0
    rw [h0]
    simp [hi]
  · simp [q, hi]
theorem zAmong {p b a : Int32} (ha : (-1) ≤ a ∧ a < 14) : fn_X4_isAmong p b a = some (if a = p ∨ 0 ≤ a ∧ zbt b a.toNatClampNeg = true then 1 else 0) := by
  unfold fn_X4_isAmong
  by_cases c : a = p
  · rw [if_pos c, if_pos (Or.inl c)]
  · rw [if_neg c]
    by_cases d : a < 0
    · rw [if_pos d, if_neg (by rintro (q | ⟨q, _⟩); exact c q; grind)]
    · rw [if_neg d]
      have hb := zbt_and (x := b) (p := a) ⟨by (first | ((try clear hb); grind) | grind), ha.2⟩
      by_cases e : ((b >>> (a &&& 31)) &&& 1) = 1
      · rw [if_pos e, if_pos (Or.inr ⟨by (first | ((try clear hb); grind) | grind), hb.mp e⟩)]
      · rw [if_neg e, if_neg (by rintro (q | ⟨_, q⟩); exact c q; exact e (hb.mpr q))]
theorem zeq_uses {cF cc cN inp : Int32} {nF nN stp mst prc al made amt op fx jn lets mF mN mCst mNF mNN mS mM mC mW mO m1 m2 mX mG : Nat → Int32} {mA mB : Nat → Int64} {p1 x y : Int32} (T : zTN cF cc cN inp nF nN stp mst prc al made amt op fx jn lets mF mN mNF mNN mS mM mC mW mCst mO m1 m2 mX mG mA mB) (h1 : fn_X11_uses p1 cN made = some x) (h2 : fn_X12_uses p1 mN m1 m2 = some y) : x = y := by
  obtain ⟨hF, ⟨n1, n2, n3⟩, hC, hz, hp, hI, hf, hn, hg⟩ := T
  unfold fn_X11_uses at h1
  unfold fn_X12_uses at h2
  rw [zHasN, zb_some] at h1
  rw [zIsNum (by rw [n1]; exact n2), zb_some, n1] at h2
  by_cases c : 0 ≤ p1 ∧ p1 < cN
  · rw [if_neg (by rw [zif1]; exact fun q => q c)] at h1 h2
    have hp14 : 0 ≤ p1 ∧ p1 < 14 := ⟨c.1, by (first | ((try clear T); (try clear h1); (try clear h2); (try clear hC); (try clear hI); (try clear hf); (try clear hn); (try clear hg); grind) | grind)⟩
    obtain ⟨w, hw, h1⟩ := zb_s h1
    rw [← Option.some.inj h1]
    unfold fn_X4_madeFrom at hw
    rw [zn01.1, n1] at h2
    refine zl_ip2 (P := fun w y => w = y) (fun s t => t.2 = s.2 ∧ p1 < s.2 ∧ s.2 ≤ 14 ∧ t.1 = s.1 ||| (1 <<< (p1 &&& 31)) ∧ zbt s.1 p1.toNatClampNeg = false) ?_ _ _ _ _ _ _ ?_ hw h2
    rotate_left
    · exact ⟨rfl, (show p1 < p1 + 1 by (first | ((try clear T); (try clear h1); (try clear h2); (try clear hC); (try clear hI); (try clear hf); (try clear hn); (try clear hg); (try clear hw); grind) | grind)), (show p1 + 1 ≤ 14 by (first | ((try clear T); (try clear h1); (try clear h2); (try clear hC); (try clear hI); (try clear hf); (try clear hn); (try clear hg); (try clear hw); grind) | grind)), (show (1 <<< (p1 &&& 31) : Int32) = (0 : Int32) ||| (1 <<< (p1 &&& 31)) from Int32.zero_or.symm), (show zbt 0 p1.toNatClampNeg = false by unfold zbt; simp)⟩
    intro s t k1 k2 o1 o2 ⟨R1, R2, R3, R4, R5⟩ hb ho1 ho2
    obtain ⟨bits, k⟩ := s
    obtain ⟨set, k'⟩ := t
    dsimp only at R1 R2 R3 R4 R5 ho1 ho2
    subst R1
    by_cases d : cN ≤ k'
    · rw [if_pos d] at ho1 ho2
      rw [← Option.some.inj ho1, ← Option.some.inj ho2, R4]
      exact (zbt_fin hp14 R5).symm
    · rw [if_neg d] at ho1 ho2
      have hk : 0 ≤ k' ∧ k' < cN := ⟨by (first | ((try clear T); (try clear h1); (try clear h2); (try clear hC); (try clear hI); (try clear hf); (try clear hn); (try clear hg); (try clear hw); (try clear hb); (try clear ho1); (try clear ho2); grind) | grind), by (first | ((try clear T); (try clear h1); (try clear h2); (try clear hC); (try clear hI); (try clear hf); (try clear hn); (try clear hg); (try clear hw); (try clear hb); (try clear ho1); (try clear ho2); grind) | grind)⟩
      have hk14 : 0 ≤ k' ∧ k' < 14 := ⟨hk.1, by (first | ((try clear T); (try clear h1); (try clear h2); (try clear hC); (try clear hI); (try clear hf); (try clear hn); (try clear hg); (try clear hw); (try clear hb); (try clear ho1); (try clear ho2); grind) | grind)⟩
      obtain ⟨q1, q2, q3, q4, q5, q6, q7, q8, q9, q10, q11, q12, q13, q14⟩ := hn k' hk.1 hk.2
      obtain ⟨-, ho2⟩ := zg_s ho2
      simp only [zj] at ho2
      rw [zMade0 n3 hk, zb_some, zAmong ⟨q12.1, by (first | ((try clear T); (try clear h1); (try clear h2); (try clear hC); (try clear hI); (try clear hf); (try clear hn); (try clear hg); (try clear hw); (try clear hb); (try clear ho1); (try clear ho2); grind) | grind)⟩, zb_some, zMade1 n3 hk, zb_some, zAmong ⟨q13.1, by (first | ((try clear T); (try clear h1); (try clear h2); (try clear hC); (try clear hI); (try clear hf); (try clear hn); (try clear hg); (try clear hw); (try clear hb); (try clear ho1); (try clear ho2); grind) | grind)⟩, zb_some] at ho1
      have bit : ∀ a : Int32, (-1) ≤ a → a < k' → ¬ a = (-1) → (((set >>> (a &&& 31)) &&& 1 = 1) ↔ (a = p1 ∨ 0 ≤ a ∧ zbt bits a.toNatClampNeg = true)) := by
        intro a a1 a2 a3
        have a4 : 0 ≤ a ∧ a < 14 := ⟨by (first | ((try clear T); (try clear h1); (try clear h2); (try clear hC); (try clear hI); (try clear hf); (try clear hn); (try clear hg); (try clear hw); (try clear hb); (try clear ho1); (try clear ho2); (try clear bit); grind) | grind), by (first | ((try clear T); (try clear h1); (try clear h2); (try clear hC); (try clear hI); (try clear hf); (try clear hn); (try clear hg); (try clear hw); (try clear hb); (try clear ho1); (try clear ho2); (try clear bit); grind) | grind)⟩
        rw [zbt_and a4, R4, zbt_or hp14]
        constructor
        · intro q
          simp only [Bool.or_eq_true, decide_eq_true_eq] at q
          rcases q with q | q
          · exact Or.inr ⟨a4.1, q⟩
          · exact Or.inl (zinj _ _ hp14.1 a4.1 q).symm
        · intro q
          simp only [Bool.or_eq_true, decide_eq_true_eq]
          rcases q with q | ⟨_, q⟩
          · exact Or.inr (by rw [q])
          · exact Or.inl q
      have yes : k1 (bits ||| (1 <<< (k' &&& 31)), k' + 1) = some o1 → k2 (set ||| (1 <<< (k' &&& 31)), k' + 1) = some o2 → o1 = o2 := by
        intro w1 w2
        refine hb _ _ _ _ ?_ w1 w2
        refine ⟨rfl, (show p1 < k' + 1 by (first | ((try clear T); (try clear h1); (try clear h2); (try clear hC); (try clear hI); (try clear hf); (try clear hn); (try clear hg); (try clear hw); (try clear hb); (try clear ho1); (try clear ho2); (try clear bit); (try clear yes); grind) | grind)), (show k' + 1 ≤ 14 by (first | ((try clear T); (try clear h1); (try clear h2); (try clear hC); (try clear hI); (try clear hf); (try clear hn); (try clear hg); (try clear hw); (try clear hb); (try clear ho1); (try clear ho2); (try clear bit); (try clear yes); grind) | grind)), ?_, ?_⟩
        · show set ||| (1 <<< (k' &&& 31)) = bits ||| (1 <<< (k' &&& 31)) ||| (1 <<< (p1 &&& 31))
          rw [R4, Int32.or_assoc, Int32.or_assoc, Int32.or_comm (1 <<< (p1 &&& 31))]
        · show zbt (bits ||| (1 <<< (k' &&& 31))) p1.toNatClampNeg = false
          rw [zbt_or hk14, R5]
          have : ¬ k'.toNatClampNeg = p1.toNatClampNeg := fun q => by have := zinj _ _ hk.1 c.1 q; (first | ((try clear T); (try clear h1); (try clear h2); (try clear hC); (try clear hI); (try clear hf); (try clear hn); (try clear hg); (try clear hw); (try clear hb); (try clear ho1); (try clear ho2); (try clear bit); (try clear yes); grind) | grind)
          simp [this]
      have no : k1 (bits, k' + 1) = some o1 → k2 (set ||| 0, k' + 1) = some o2 → o1 = o2 := by
        intro w1 w2
        rw [Int32.or_zero] at w2
        refine hb _ _ _ _ ?_ w1 w2
        exact ⟨rfl, (show p1 < k' + 1 by (first | ((try clear T); (try clear h1); (try clear h2); (try clear hC); (try clear hI); (try clear hf); (try clear hn); (try clear hg); (try clear hw); (try clear hb); (try clear ho1); (try clear ho2); (try clear bit); (try clear yes); (try clear no); grind) | grind)), (show k' + 1 ≤ 14 by (first | ((try clear T); (try clear h1); (try clear h2); (try clear hC); (try clear hI); (try clear hf); (try clear hn); (try clear hg); (try clear hw); (try clear hb); (try clear ho1); (try clear ho2); (try clear bit); (try clear yes); (try clear no); grind) | grind)), R4, R5⟩
      rw [← q5, ← q6] at ho2
      have h10 : ¬ (1 : Int32) = 0 := by decide
      have hneg : (-1 : Int32) = p1 → False := fun q => by (first | ((try clear T); (try clear h1); (try clear h2); (try clear hC); (try clear hI); (try clear hf); (try clear hn); (try clear hg); (try clear hw); (try clear hb); (try clear ho1); (try clear ho2); (try clear bit); (try clear yes); (try clear no); grind) | grind)
      -- the second WHAT, once the first is none
      have snd : (if (if made (2 * k' + 1).toNatClampNeg = p1 ∨ 0 ≤ made (2 * k' + 1).toNatClampNeg ∧ zbt bits (made (2 * k' + 1).toNatClampNeg).toNatClampNeg = true then (1 : Int32) else 0) = 0 then k1 (bits, k' + 1) else k1 (bits ||| (1 <<< (k' &&& 31)), k' + 1)) = some o1 → (zg k' 28 (if made (2 * k' + 1).toNatClampNeg = (-1) then (if (0 : Int32) = 0 then k2 (set ||| 0, k' + 1) else k2 (set ||| (1 <<< (k' &&& 31)), k' + 1)) else (if ((set >>> (made (2 * k' + 1).toNatClampNeg &&& 31)) &&& 1) = 1 then (if (1 : Int32) = 0 then k2 (set ||| 0, k' + 1) else k2 (set ||| (1 <<< (k' &&& 31)), k' + 1)) else (if (0 : Int32) = 0 then k2 (set ||| 0, k' + 1) else k2 (set ||| (1 <<< (k' &&& 31)), k' + 1))))) = some o2 → o1 = o2 := by
        intro w1 w2
        obtain ⟨-, w2⟩ := zg_s w2
        rw [if_neg h10, if_pos rfl] at w2
        by_cases e : made (2 * k' + 1).toNatClampNeg = (-1)
        · rw [if_pos e] at w2
          rw [if_pos (by rw [zif1, e]; rintro (q | ⟨q, _⟩); exact hneg q; exact absurd q (by decide))] at w1
          exact no w1 w2
        · rw [if_neg e] at w2
          have hbit := bit _ q13.1 q13.2 e
          by_cases u : made (2 * k' + 1).toNatClampNeg = p1 ∨ 0 ≤ made (2 * k' + 1).toNatClampNeg ∧ zbt bits (made (2 * k' + 1).toNatClampNeg).toNatClampNeg = true
          · rw [if_pos (hbit.mpr u)] at w2
            rw [if_neg (by rw [zif1]; exact fun q => q u)] at w1
            exact yes w1 w2
          · rw [if_neg (fun q => u (hbit.mp q))] at w2
            rw [if_pos (by rw [zif1]; exact u)] at w1
            exact no w1 w2
      by_cases e : made (2 * k' + 0).toNatClampNeg = (-1)
      · rw [if_pos e] at ho2
        rw [if_pos (by rw [zif1, e]; rintro (q | ⟨q, _⟩); exact hneg q; exact absurd q (by decide))] at ho1
        exact snd ho1 ho2
      · rw [if_neg e] at ho2
        have hbit := bit _ q12.1 q12.2 e
        by_cases u : made (2 * k' + 0).toNatClampNeg = p1 ∨ 0 ≤ made (2 * k' + 0).toNatClampNeg ∧ zbt bits (made (2 * k' + 0).toNatClampNeg).toNatClampNeg = true
        · rw [if_pos (hbit.mpr u), if_neg h10] at ho2
          rw [if_neg (by rw [zif1]; exact fun q => q u)] at ho1
          exact yes ho1 ho2
        · rw [if_neg (fun q => u (hbit.mp q))] at ho2
          rw [if_pos (by rw [zif1]; exact u)] at ho1
          exact snd ho1 ho2
  · rw [if_pos (by rw [zif1]; exact c)] at h1 h2
    rw [← Option.some.inj h1, ← Option.some.inj h2]
/-! numbers of 64 bits: least, greatest, amount, products by 1000 -/
noncomputable def zLs (a b : Int64) : Int64 := if b < a then b else a
noncomputable def zMx (a b : Int64) : Int64 := if b < a then a else b
noncomputable def zAb (a : Int64) : Int64 := if 0 < a then a else -a
theorem zLes (a b : Int64) : fn_X12_lesser a b = some (zLs a b) := by
  unfold fn_X12_lesser zLs
  by_cases c : b ≤ a
  · rw [if_pos ((lg_cmp_ge a b).mpr c)]
    by_cases d : b < a
    · rw [if_pos d]
    · rw [if_neg d, show b = a by grind]
  · rw [if_neg (fun q => c ((lg_cmp_ge a b).mp q)), if_neg (by grind)]
theorem zGre (a b : Int64) : fn_X12_greater a b = some (zMx a b) := by
  unfold fn_X12_greater zMx
  by_cases c : a ≤ b
  · rw [if_pos ((lg_cmp_le a b).mpr c), if_neg (by grind)]
  · rw [if_neg (fun q => c ((lg_cmp_le a b).mp q)), if_pos (by grind)]
theorem zAmo (a : Int64) : fn_X12_amount a = some (zAb a) := by
  unfold fn_X12_amount zAb
  by_cases c : 0 ≤ a
  · rw [if_pos ((lg_cmp_ge a 0).mpr c)]
    by_cases d : 0 < a
    · rw [if_pos d]
    · rw [if_neg d, show a = 0 by grind]
      rfl
  · rw [if_neg (fun q => c ((lg_cmp_ge a 0).mp q)), if_neg (by grind)]
theorem zMx_comm (a b : Int64) : zMx a b = zMx b a := by
  unfold zMx
  grind
noncomputable def zFd (x y : Int64) : Int64 := if x - x / y * y = 0 then x / y else if 0 ≤ x then x / y else x / y - 1
theorem zxor {x y : Int64} (hy : 0 ≤ y) : 0 ≤ x ^^^ y ↔ 0 ≤ x := by
  have z0 : (0 : Int64).toInt = 0 := by decide +kernel
  have key : ∀ v : Int64, 0 ≤ v ↔ v.toBitVec.msb = false := by
    intro v
    rw [Int64.le_iff_toInt_le, z0, BitVec.msb_eq_toInt]
    show 0 ≤ v.toBitVec.toInt ↔ _
    constructor
    · intro q; exact decide_eq_false (by omega)
    · intro q; have := of_decide_eq_false q; omega
  rw [key, key x, Int64.toBitVec_xor, BitVec.msb_xor, (key y).mp hy]
  simp
theorem zFdM {x y : Int64} (hy : ¬ y = 0) : fn_X12_floor x y = some (zFd x y) := by
  unfold fn_X12_floor zd zFd
  rw [if_neg hy, if_neg hy]
  by_cases c : x - x / y * y = 0
  · rw [if_pos ((lg_cmp_eq _ _).mpr c), if_pos c]
  · rw [if_neg (fun q => c ((lg_cmp_eq _ _).mp q)), if_neg c]
    by_cases d : 0 ≤ x
    · rw [if_pos ((lg_cmp_ge _ _).mpr d), if_pos d]
    · rw [if_neg (fun q => d ((lg_cmp_ge _ _).mp q)), if_neg d]
theorem zFdJ {x y : Int64} (hy : 1 ≤ y) : fn_J9_floorDiv_f86c9 x y = some (zFd x y) := by
  unfold fn_J9_floorDiv_f86c9 zd zFd
  rw [if_neg (show ¬ y = 0 by grind)]
  have hx := zxor (x := x) (y := y) (by (first | ((try clear hx); grind) | grind))
  have e : (x / y * y = x) ↔ (x - x / y * y = 0) := by
    generalize x / y * y = z
    constructor
    · intro q; rw [q]; exact Int64.sub_self x
    · intro q; (first | ((try clear hx); grind) | grind)
  by_cases d : 0 ≤ x
  · rw [if_pos ((lg_cmp_ge _ _).mpr (hx.mpr d)), if_pos d]
    by_cases c : x - x / y * y = 0
    · rw [if_pos c]
    · rw [if_neg c]
  · rw [if_neg (fun q => d (hx.mp ((lg_cmp_ge _ _).mp q))), if_neg d]
    by_cases c : x - x / y * y = 0
    · rw [if_pos ((lg_cmp_eq _ _).mpr (e.mpr c)), if_pos c]
    · rw [if_neg (fun q => c (e.mp ((lg_cmp_eq _ _).mp q))), if_neg c]
noncomputable def zPr (a b s : Int64) : Int64 := zFd (2 * a * b + 1000 * s) (2000 * s) * s
noncomputable def zRd' (a s : Int64) : Int64 := zFd (2 * a + s) (2 * s) * s
theorem zst {s : Int64} (h : 1 ≤ s ∧ s ≤ 1000000) : 1 ≤ 1000 * s ∧ 1 ≤ 2000 * s ∧ 1 ≤ 2 * s := by
  refine ⟨?_, ?_, ?_⟩ <;> grind
theorem zPrM {a b s : Int64} (h : 1 ≤ s ∧ s ≤ 1000000) : fn_X12_roundedProduct a b s = some (zPr a b s) := by
  unfold fn_X12_roundedProduct
  have := (zst h).2.1
  rw [zFdM (show ¬ 2000 * s = 0 by grind), zb_some]
  rfl
theorem zNeJ {a d s : Int64} (h1 : 1 ≤ d * s) (h2 : 1 ≤ 2 * (d * s)) : fn_X11_nearest a d s = some (zFd (2 * a + d * s) (2 * (d * s)) * s) := by
  unfold fn_X11_nearest
  rw [if_pos ((lg_cmp_ge _ _).mpr h1), zFdJ h2, zb_some]
theorem zPrJ {a b s : Int64} (h : 1 ≤ s ∧ s ≤ 1000000) : fn_X11_nearest (a * b) 1000 s = some (zPr a b s) := by
  have e : 2 * (1000 * s) = 2000 * s := by rw [← Int64.mul_assoc]; rfl
  obtain ⟨h1, h2, -⟩ := zst h
  rw [zNeJ h1 (by rw [e]; exact h2), e, ← Int64.mul_assoc]
  rfl
noncomputable def zAp (p : Int32) (a b s : Int64) : Int64 := if p = 1 then a + b else if p = 2 then a - b else if p = 3 then zPr a b s else if p = 4 then zLs a b else zMx a b
theorem zApJ {p : Int32} {a b s : Int64} (hp : 1 ≤ p ∧ p ≤ 5) (h : 1 ≤ s ∧ s ≤ 1000000) : fn_X11_apply p a b s = some (zAp p a b s) := by
  unfold fn_X11_apply zAp
  rw [zPrJ h, zb_some]
  by_cases c1 : p = 1
  · rw [if_pos c1, if_pos c1]
  · rw [if_neg c1, if_neg c1]
    by_cases c2 : p = 2
    · rw [if_pos c2, if_pos c2]
    · rw [if_neg c2, if_neg c2]
      by_cases c3 : p = 3
      · rw [if_pos c3, if_pos c3]
      · rw [if_neg c3, if_neg c3]
        by_cases c4 : p = 4
        · rw [if_pos c4, if_pos c4]; rfl
        · rw [if_neg c4, if_neg c4, if_pos (by grind)]; rfl
theorem zApM {p : Int32} {a b s : Int64} (h : 1 ≤ s ∧ s ≤ 1000000) : fn_X12_two p a b s = some (zAp p a b s) := by
  unfold fn_X12_two zAp
  rw [zPrM h, zLes, zGre, zb_some, zb_some, zb_some]
  by_cases c1 : p = 1
  · rw [if_pos c1, if_pos c1]
  · rw [if_neg c1, if_neg c1]
    by_cases c2 : p = 2
    · rw [if_pos c2, if_pos c2]
    · rw [if_neg c2, if_neg c2]
      by_cases c3 : p = 3
      · rw [if_pos c3, if_pos c3]
      · rw [if_neg c3, if_neg c3]
        by_cases c4 : p = 4
        · rw [if_pos c4, if_pos c4]
        · rw [if_neg c4, if_neg c4]
theorem zone64 : (1 : Int64) ≤ 1 ∧ (1 : Int64) ≤ 1000000 := by decide
/-! both ends of a NUMBER, by those of its WHATS -/
noncomputable def zVal (m a : Int32) (row : Nat → Int64) : Int64 := if m = (-1) then a.toInt64 else row m.toNatClampNeg
noncomputable def zLoV (p : Int32) (a b c d : Int64) : Int64 := if p = 2 then a - d else if p = 3 then zLs (zLs (zPr a c 1) (zPr a d 1)) (zLs (zPr b c 1) (zPr b d 1)) else zAp p a c 1
noncomputable def zHiV (p : Int32) (a b c d : Int64) : Int64 := if p = 2 then b - c else if p = 3 then zMx (zMx (zPr a c 1) (zPr a d 1)) (zMx (zPr b c 1) (zPr b d 1)) else zAp p b d 1
noncomputable def zLw (i : Int32) (op made amt : Nat → Int32) (lo hi : Nat → Int64) : Int64 := if op i.toNatClampNeg = 0 then (amt (2 * i + 0).toNatClampNeg).toInt64 else zLoV (op i.toNatClampNeg) (zVal (made (2 * i + 0).toNatClampNeg) (amt (2 * i + 0).toNatClampNeg) lo) (zVal (made (2 * i + 0).toNatClampNeg) (amt (2 * i + 0).toNatClampNeg) hi) (zVal (made (2 * i + 1).toNatClampNeg) (amt (2 * i + 1).toNatClampNeg) lo) (zVal (made (2 * i + 1).toNatClampNeg) (amt (2 * i + 1).toNatClampNeg) hi)
noncomputable def zHg (i : Int32) (op made amt : Nat → Int32) (lo hi : Nat → Int64) : Int64 := if op i.toNatClampNeg = 0 then (amt (2 * i + 1).toNatClampNeg).toInt64 else zHiV (op i.toNatClampNeg) (zVal (made (2 * i + 0).toNatClampNeg) (amt (2 * i + 0).toNatClampNeg) lo) (zVal (made (2 * i + 0).toNatClampNeg) (amt (2 * i + 0).toNatClampNeg) hi) (zVal (made (2 * i + 1).toNatClampNeg) (amt (2 * i + 1).toNatClampNeg) lo) (zVal (made (2 * i + 1).toNatClampNeg) (amt (2 * i + 1).toNatClampNeg) hi)
/-- what the class needs to know of one NUMBER -/
noncomputable def zOk (i : Int32) (op made : Nat → Int32) : Prop := (0 ≤ op i.toNatClampNeg ∧ op i.toNatClampNeg ≤ 5) ∧ ((-1) ≤ made (2 * i + 0).toNatClampNeg ∧ made (2 * i + 0).toNatClampNeg < i) ∧ ((-1) ≤ made (2 * i + 1).toNatClampNeg ∧ made (2 * i + 1).toNatClampNeg < i) ∧ (op i.toNatClampNeg = 0 → made (2 * i + 0).toNatClampNeg = (-1) ∧ made (2 * i + 1).toNatClampNeg = (-1))
theorem zOk_of {i cF : Int32} {nN op fx al made amt lets mNN mO m1 m2 mX mW : Nat → Int32} {mA mB : Nat → Int64} (h : zN01 i cF nN op fx al made amt lets mNN mO m1 m2 mX mW mA mB) : zOk i op made := by
  obtain ⟨q1, q2, q3, q4, q5, q6, q7, q8, q9, q10, q11, q12, q13, q14, q15, q16, q17⟩ := h
  exact ⟨q9, q12, q13, fun w => ⟨(q16 w).1, (q16 w).2.1⟩⟩
theorem zLowJ0 {i cN : Int32} {made amt : Nat → Int32} {lo : Nat → Int64} (hN : cN ≤ 14) (hi : 0 ≤ i ∧ i < cN) (hm : (-1) ≤ made (2 * i + 0).toNatClampNeg ∧ made (2 * i + 0).toNatClampNeg < i) : fn_X6_lowOf i 0 cN made amt lo = some (zVal (made (2 * i + 0).toNatClampNeg) (amt (2 * i + 0).toNatClampNeg) lo) := by
  unfold fn_X6_lowOf zVal
  rw [zMade0 hN hi, zb_some, zAmt0 hN hi, zb_some]
  by_cases c : made (2 * i + 0).toNatClampNeg = (-1)
  · rw [if_pos (by rw [c]; decide), if_pos c]
  · rw [if_neg (by grind), if_neg (by grind), if_neg c, zg_in 14 (by decide +kernel) ⟨by grind, by grind⟩]
theorem zLowJ1 {i cN : Int32} {made amt : Nat → Int32} {lo : Nat → Int64} (hN : cN ≤ 14) (hi : 0 ≤ i ∧ i < cN) (hm : (-1) ≤ made (2 * i + 1).toNatClampNeg ∧ made (2 * i + 1).toNatClampNeg < i) : fn_X6_lowOf i 1 cN made amt lo = some (zVal (made (2 * i + 1).toNatClampNeg) (amt (2 * i + 1).toNatClampNeg) lo) := by
  unfold fn_X6_lowOf zVal
  rw [zMade1 hN hi, zb_some, zAmt1 hN hi, zb_some]
  by_cases c : made (2 * i + 1).toNatClampNeg = (-1)
  · rw [if_pos (by rw [c]; decide), if_pos c]
  · rw [if_neg (by grind), if_neg (by grind), if_neg c, zg_in 14 (by decide +kernel) ⟨by grind, by grind⟩]
theorem zHighJ {p2 p3 v1_0 : Int32} {f2 f3 : Nat → Int32} {f4 : Nat → Int64} : fn_X6_highOf p2 p3 v1_0 f2 f3 f4 = fn_X6_lowOf p2 p3 v1_0 f2 f3 f4 := rfl
theorem zEndJ {i cN g : Int32} {a : Int64} {made amt : Nat → Int32} {lo hi : Nat → Int64} (hN : cN ≤ 14) (hi' : 0 ≤ i ∧ i < cN) (hm : (-1) ≤ made (2 * i + 1).toNatClampNeg ∧ made (2 * i + 1).toNatClampNeg < i) : fn_X6_endProduct i a g cN made amt lo hi = some (if g = 0 then zLs (zPr a (zVal (made (2 * i + 1).toNatClampNeg) (amt (2 * i + 1).toNatClampNeg) lo) 1) (zPr a (zVal (made (2 * i + 1).toNatClampNeg) (amt (2 * i + 1).toNatClampNeg) hi) 1) else zMx (zPr a (zVal (made (2 * i + 1).toNatClampNeg) (amt (2 * i + 1).toNatClampNeg) lo) 1) (zPr a (zVal (made (2 * i + 1).toNatClampNeg) (amt (2 * i + 1).toNatClampNeg) hi) 1)) := by
  have e : ∀ x : Int64, fn_X11_apply 3 a x 1 = some (zPr a x 1) := fun x => by rw [zApJ (by decide) zone64]; rfl
  unfold fn_X6_endProduct
  simp only [zHighJ, zLowJ1 hN hi' hm, zb_some, e]
  by_cases c : g = 0
  · rw [if_pos c, if_pos c]; rfl
  · rw [if_neg c, if_neg c]; rfl
theorem zLwJ {i cN : Int32} {op made amt : Nat → Int32} {lo hi : Nat → Int64} (hN : cN ≤ 14) (hi' : 0 ≤ i ∧ i < cN) (hk : zOk i op made) : fn_X6_lowest i cN op made amt lo hi = some (zLw i op made amt lo hi) := by
  obtain ⟨k1, k2, k3, k4⟩ := hk
  unfold fn_X6_lowest zLw zLoV
  rw [zg_in 14 (by decide +kernel) ⟨hi'.1, by (first | ((try clear hk); grind) | grind)⟩]
  simp only [zHighJ, zLowJ0 hN hi' k2, zLowJ1 hN hi' k3, zEndJ hN hi' k3, zb_some, if_true]
  by_cases c0 : op i.toNatClampNeg = 0
  · rw [if_pos c0, if_pos c0]
    unfold zVal
    rw [if_pos (k4 c0).1]
  · rw [if_neg c0, if_neg c0]
    have h1 : 1 ≤ op i.toNatClampNeg ∧ op i.toNatClampNeg ≤ 5 := ⟨by (first | ((try clear hk); grind) | grind), k1.2⟩
    simp only [zApJ h1 zone64, zb_some]
    by_cases c3 : op i.toNatClampNeg = 3
    · rw [if_pos c3, if_neg (show ¬ op i.toNatClampNeg = 2 by rw [c3]; decide), if_pos c3]; rfl
    · rw [if_neg c3]
      by_cases c2 : op i.toNatClampNeg = 2
      · rw [if_pos c2, if_pos c2]
        unfold zAp
        rw [if_neg (show ¬ op i.toNatClampNeg = 1 by rw [c2]; decide), if_pos c2]
      · rw [if_neg c2, if_neg c2, if_neg c3]
theorem zHgJ {i cN : Int32} {op made amt : Nat → Int32} {lo hi : Nat → Int64} (hN : cN ≤ 14) (hi' : 0 ≤ i ∧ i < cN) (hk : zOk i op made) : fn_X6_highest i cN op made amt hi lo = some (zHg i op made amt lo hi) := by
  obtain ⟨k1, k2, k3, k4⟩ := hk
  have h10 : ¬ (1 : Int32) = 0 := by decide
  unfold fn_X6_highest zHg zHiV
  rw [zg_in 14 (by decide +kernel) ⟨hi'.1, by (first | ((try clear hk); grind) | grind)⟩]
  simp only [zHighJ, zLowJ0 hN hi' k2, zLowJ1 hN hi' k3, zEndJ hN hi' k3, zb_some, if_neg h10]
  by_cases c0 : op i.toNatClampNeg = 0
  · rw [if_pos c0, if_pos c0]
    unfold zVal
    rw [if_pos (k4 c0).2]
  · rw [if_neg c0, if_neg c0]
    have h1 : 1 ≤ op i.toNatClampNeg ∧ op i.toNatClampNeg ≤ 5 := ⟨by (first | ((try clear hk); grind) | grind), k1.2⟩
    simp only [zApJ h1 zone64, zb_some]
    by_cases c3 : op i.toNatClampNeg = 3
    · rw [if_pos c3, if_neg (show ¬ op i.toNatClampNeg = 2 by rw [c3]; decide), if_pos c3]
      exact congrArg some (zMx_comm _ _)
    · rw [if_neg c3]
      by_cases c2 : op i.toNatClampNeg = 2
      · rw [if_pos c2, if_pos c2]
        unfold zAp
        rw [if_neg (show ¬ op i.toNatClampNeg = 1 by rw [c2]; decide), if_pos c2]
      · rw [if_neg c2, if_neg c2, if_neg c3]
/-! the reference's -/
theorem zLowM {k s : Int32} {m1 m2 : Nat → Int32} {lo mA mB : Nat → Int64} {x : Int64} (h : fn_X12_lowOf k s m1 m2 lo mA mB = some x) : x = if s = 0 then (if m1 k.toNatClampNeg = (-1) then mA k.toNatClampNeg else lo (m1 k.toNatClampNeg).toNatClampNeg) else (if m2 k.toNatClampNeg = (-1) then mB k.toNatClampNeg else lo (m2 k.toNatClampNeg).toNatClampNeg) := by
  unfold fn_X12_lowOf at h
  simp only [zj] at h
  by_cases c : s = 0
  · rw [if_pos c] at h ⊢
    obtain ⟨-, h⟩ := zg_s h
    by_cases d : m1 k.toNatClampNeg = (-1)
    · rw [if_pos d, if_pos c] at h
      rw [if_pos d]
      obtain ⟨-, h⟩ := zg_s h
      exact (Option.some.inj h).symm
    · rw [if_neg d] at h ⊢
      obtain ⟨-, h⟩ := zg_s h
      exact (Option.some.inj h).symm
  · rw [if_neg c] at h ⊢
    obtain ⟨-, h⟩ := zg_s h
    by_cases d : m2 k.toNatClampNeg = (-1)
    · rw [if_pos d, if_neg c] at h
      rw [if_pos d]
      obtain ⟨-, h⟩ := zg_s h
      exact (Option.some.inj h).symm
    · rw [if_neg d] at h ⊢
      obtain ⟨-, h⟩ := zg_s h
      exact (Option.some.inj h).symm
theorem zHighM {k s : Int32} {m1 m2 : Nat → Int32} {lo mA mB : Nat → Int64} : fn_X12_highOf k s m1 m2 lo mA mB = fn_X12_lowOf k s m1 m2 lo mA mB := rfl
theorem zLaysR {k wn cF : Int32} {wb : Int64} {nN op fx al made amt lets mNN mO m1 m2 mX mW : Nat → Int32} {mA mB lo hi : Nat → Int64} {x : (Nat → Int64) × (Nat → Int64)} (hk : zN01 k cF nN op fx al made amt lets mNN mO m1 m2 mX mW mA mB) (h : fn_X12_laysRange k wn wb mO m1 m2 lo mA mB hi = some x) : x = (vp_updL lo k.toNatClampNeg (zLw k op made amt lo hi - (if k = wn ∧ op k.toNatClampNeg = 0 then wb else 0)), vp_updL hi k.toNatClampNeg (zHg k op made amt lo hi + (if k = wn ∧ op k.toNatClampNeg = 0 then wb else 0))) := by
  obtain ⟨q1, q2, q3, q4, q5, q6, q7, q8, q9, q10, q11, q12, q13, q14, q15, q16, q17⟩ := hk
  have e0 : ∀ row : Nat → Int64, (if m1 k.toNatClampNeg = (-1) then mA k.toNatClampNeg else row (m1 k.toNatClampNeg).toNatClampNeg) = zVal (made (2 * k + 0).toNatClampNeg) (amt (2 * k + 0).toNatClampNeg) row := fun row => by rw [← q5, q7]; rfl
  have e1 : ∀ row : Nat → Int64, (if m2 k.toNatClampNeg = (-1) then mB k.toNatClampNeg else row (m2 k.toNatClampNeg).toNatClampNeg) = zVal (made (2 * k + 1).toNatClampNeg) (amt (2 * k + 1).toNatClampNeg) row := fun row => by rw [← q6, q8]; rfl
  have h10 : ¬ (1 : Int32) = 0 := by decide
  unfold fn_X12_laysRange at h
  obtain ⟨-, h⟩ := zg_s h
  simp only [zj, zHighM] at h
  unfold zLw zHg zLoV zHiV
  rw [q2]
  by_cases c0 : mO k.toNatClampNeg = 0
  · rw [if_pos c0] at h
    by_cases d : k = wn
    · rw [if_pos d] at h
      obtain ⟨-, h⟩ := zg_s h
      obtain ⟨-, h⟩ := zg_s h
      rw [← Option.some.inj h, if_pos c0, if_pos c0, if_pos (show k = wn ∧ mO k.toNatClampNeg = 0 from ⟨d, c0⟩), q7, q8]
    · rw [if_neg d] at h
      obtain ⟨-, h⟩ := zg_s h
      obtain ⟨-, h⟩ := zg_s h
      rw [← Option.some.inj h, if_pos c0, if_pos c0, if_neg (show ¬ (k = wn ∧ mO k.toNatClampNeg = 0) from fun q => d q.1), q7, q8]
  · rw [if_neg c0] at h
    rw [if_neg c0, if_neg c0, if_neg (show ¬ (k = wn ∧ mO k.toNatClampNeg = 0) from fun q => c0 q.2), Int64.sub_zero, Int64.add_zero]
    obtain ⟨a, ha, h⟩ := zb_s h
    obtain ⟨b, hb, h⟩ := zb_s h
    obtain ⟨c, hc, h⟩ := zb_s h
    obtain ⟨d, hd, h⟩ := zb_s h
    have ha := zLowM ha
    have hb := zLowM hb
    have hc := zLowM hc
    have hd := zLowM hd
    rw [if_pos rfl, e0] at ha hb
    rw [if_neg h10, e1] at hc hd
    rw [← ha, ← hb, ← hc, ← hd]
    by_cases c2 : mO k.toNatClampNeg = 2
    · rw [if_pos c2] at h
      obtain ⟨-, h⟩ := zg_s h
      rw [← Option.some.inj h, if_pos c2, if_pos c2]
    · rw [if_neg c2] at h
      rw [if_neg c2, if_neg c2]
      simp only [zApM zone64, zLes, zGre, zb_some] at h
      by_cases c3 : mO k.toNatClampNeg = 3
      · rw [if_pos c3] at h
        obtain ⟨-, h⟩ := zg_s h
        rw [← Option.some.inj h, if_pos c3, if_pos c3]
        rfl
      · rw [if_neg c3] at h
        obtain ⟨-, h⟩ := zg_s h
        rw [← Option.some.inj h, if_neg c3, if_neg c3]
/-! RANGES: the class lays them once, held; the reference each time, as far as they are not great -/
noncomputable def zHd (x : Int64) : Int64 := if (if x < 2000000000 then x else 2000000000) < -2000000000 then -2000000000 else (if x < 2000000000 then x else 2000000000)
theorem zHeld (x : Int64) : fn_X6_held x = some (zHd x) := rfl
theorem zAmtOf {i : Int32} {f g : Nat → Int64} (hi : 0 ≤ i ∧ i < 14) : fn_X6_amountOf i f g = some (zMx (zAb (f i.toNatClampNeg)) (zAb (g i.toNatClampNeg))) := by
  unfold fn_X6_amountOf
  rw [zg_in 14 (by decide +kernel) hi]
  rfl
theorem zMostM {i : Int32} {f g : Nat → Int64} {x : Int64} (h : fn_X12_mostOf i f g = some x) : x = zMx (zAb (f i.toNatClampNeg)) (zAb (g i.toNatClampNeg)) := by
  unfold fn_X12_mostOf at h
  obtain ⟨-, h⟩ := zg_s h
  simp only [zAmo, zGre, zb_some] at h
  exact (Option.some.inj h).symm
theorem zMx_gt (a b c : Int64) : c < zMx a b ↔ c < a ∨ c < b := by
  unfold zMx
  grind
noncomputable def zWd (w : Nat → Int32) (m : Int32) : Prop := ¬ m = (-1) ∧ ¬ w m.toNatClampNeg = 0
theorem zIsWide {m : Int32} {w : Nat → Int32} (hm : (-1) ≤ m ∧ m < 14) {x : Int32} (h : fn_X6_isWide m w = some x) : x = 0 ∧ ¬ zWd w m ∨ x = 1 ∧ zWd w m := by
  unfold fn_X6_isWide at h
  by_cases c : m < 0
  · rw [if_pos c] at h
    exact Or.inl ⟨(Option.some.inj h).symm, fun q => q.1 (by (first | ((try clear h); grind) | grind))⟩
  · rw [if_neg c, if_neg (by (first | ((try clear h); grind) | grind))] at h
    obtain ⟨-, h⟩ := zg_s h
    by_cases d : w m.toNatClampNeg = 0
    · rw [if_pos d] at h
      exact Or.inl ⟨(Option.some.inj h).symm, fun q => q.2 d⟩
    · rw [if_neg d] at h
      exact Or.inr ⟨(Option.some.inj h).symm, by (first | ((try clear h); grind) | grind), d⟩
theorem zVal_c {m a : Int32} {lo lo' : Nat → Int64} (h : m = (-1) ∨ lo' m.toNatClampNeg = lo m.toNatClampNeg) : zVal m a lo' = zVal m a lo := by
  unfold zVal
  rcases h with h | h
  · rw [if_pos h, if_pos h]
  · rw [h]
theorem zLw_c {i : Int32} {op made amt : Nat → Int32} {lo hi lo' hi' : Nat → Int64} (h0 : made (2 * i + 0).toNatClampNeg = (-1) ∨ (lo' (made (2 * i + 0).toNatClampNeg).toNatClampNeg = lo (made (2 * i + 0).toNatClampNeg).toNatClampNeg ∧ hi' (made (2 * i + 0).toNatClampNeg).toNatClampNeg = hi (made (2 * i + 0).toNatClampNeg).toNatClampNeg)) (h1 : made (2 * i + 1).toNatClampNeg = (-1) ∨ (lo' (made (2 * i + 1).toNatClampNeg).toNatClampNeg = lo (made (2 * i + 1).toNatClampNeg).toNatClampNeg ∧ hi' (made (2 * i + 1).toNatClampNeg).toNatClampNeg = hi (made (2 * i + 1).toNatClampNeg).toNatClampNeg)) : zLw i op made amt lo' hi' = zLw i op made amt lo hi ∧ zHg i op made amt lo' hi' = zHg i op made amt lo hi := by
  have a0 : zVal (made (2 * i + 0).toNatClampNeg) (amt (2 * i + 0).toNatClampNeg) lo' = zVal (made (2 * i + 0).toNatClampNeg) (amt (2 * i + 0).toNatClampNeg) lo := zVal_c (h0.imp id (fun q => q.1))
  have a1 : zVal (made (2 * i + 0).toNatClampNeg) (amt (2 * i + 0).toNatClampNeg) hi' = zVal (made (2 * i + 0).toNatClampNeg) (amt (2 * i + 0).toNatClampNeg) hi := zVal_c (h0.imp id (fun q => q.2))
  have b0 : zVal (made (2 * i + 1).toNatClampNeg) (amt (2 * i + 1).toNatClampNeg) lo' = zVal (made (2 * i + 1).toNatClampNeg) (amt (2 * i + 1).toNatClampNeg) lo := zVal_c (h1.imp id (fun q => q.1))
  have b1 : zVal (made (2 * i + 1).toNatClampNeg) (amt (2 * i + 1).toNatClampNeg) hi' = zVal (made (2 * i + 1).toNatClampNeg) (amt (2 * i + 1).toNatClampNeg) hi := zVal_c (h1.imp id (fun q => q.2))
  unfold zLw zHg
  rw [a0, a1, b0, b1]
  exact ⟨rfl, rfl⟩
theorem zLw_b {i : Int32} {op made amt : Nat → Int32} {lo hi lo' hi' : Nat → Int64} (hk : zOk i op made) (h : ∀ j : Int32, 0 ≤ j → j < i → lo' j.toNatClampNeg = lo j.toNatClampNeg ∧ hi' j.toNatClampNeg = hi j.toNatClampNeg) : zLw i op made amt lo' hi' = zLw i op made amt lo hi ∧ zHg i op made amt lo' hi' = zHg i op made amt lo hi := by
  obtain ⟨k1, k2, k3, k4⟩ := hk
  refine zLw_c ?_ ?_
  · by_cases c : made (2 * i + 0).toNatClampNeg = (-1)
    · exact Or.inl c
    · exact Or.inr (h _ (by (first | ((try clear hk); (try clear h); grind) | grind)) k2.2)
  · by_cases c : made (2 * i + 1).toNatClampNeg = (-1)
    · exact Or.inl c
    · exact Or.inr (h _ (by (first | ((try clear hk); (try clear h); grind) | grind)) k3.2)
noncomputable def zRN1 (i inp : Int32) (more : Int64) (op made amt rwd : Nat → Int32) (rlo rhi : Nat → Int64) : Prop := rlo i.toNatClampNeg = zHd (zLw i op made amt rlo rhi - (if i = inp then more else 0)) ∧ rhi i.toNatClampNeg = zHd (zHg i op made amt rlo rhi + (if i = inp then more else 0)) ∧ (rwd i.toNatClampNeg = 1 ∧ (1000000000 < zMx (zAb (rlo i.toNatClampNeg)) (zAb (rhi i.toNatClampNeg)) ∨ zWd rwd (made (2 * i + 0).toNatClampNeg) ∨ zWd rwd (made (2 * i + 1).toNatClampNeg)) ∨ rwd i.toNatClampNeg = 0 ∧ ¬ (1000000000 < zMx (zAb (rlo i.toNatClampNeg)) (zAb (rhi i.toNatClampNeg)) ∨ zWd rwd (made (2 * i + 0).toNatClampNeg) ∨ zWd rwd (made (2 * i + 1).toNatClampNeg)))
noncomputable def zRN (cN inp : Int32) (more : Int64) (op made amt rwd : Nat → Int32) (rlo rhi : Nat → Int64) : Prop := ∀ i : Int32, 0 ≤ i → i < cN → zRN1 i inp more op made amt rwd rlo rhi
theorem zWd_c {w w' : Nat → Int32} {m : Int32} (h : m = (-1) ∨ w' m.toNatClampNeg = w m.toNatClampNeg) : zWd w' m ↔ zWd w m := by
  unfold zWd
  rcases h with h | h
  · exact ⟨fun q => absurd h q.1, fun q => absurd h q.1⟩
  · rw [h]
theorem zRN1_c {i inp : Int32} {more : Int64} {op made amt w w' : Nat → Int32} {lo hi lo' hi' : Nat → Int64} (i0 : 0 ≤ i) (hk : zOk i op made) (h : ∀ j : Int32, 0 ≤ j → j < i + 1 → lo' j.toNatClampNeg = lo j.toNatClampNeg ∧ hi' j.toNatClampNeg = hi j.toNatClampNeg ∧ w' j.toNatClampNeg = w j.toNatClampNeg) (i1 : i < 14) (H : zRN1 i inp more op made amt w lo hi) : zRN1 i inp more op made amt w' lo' hi' := by
  obtain ⟨e1, e2⟩ := zLw_b (amt := amt) hk (fun j j0 j1 => ⟨(h j j0 (by (first | ((try clear hk); (try clear h); (try clear H); grind) | grind))).1, (h j j0 (by (first | ((try clear hk); (try clear h); (try clear H); grind) | grind))).2.1⟩)
  obtain ⟨f1, f2, f3⟩ := h i i0 (by (first | ((try clear hk); (try clear h); (try clear H); grind) | grind))
  obtain ⟨k1, k2, k3, k4⟩ := hk
  have g0 : zWd w' (made (2 * i + 0).toNatClampNeg) ↔ zWd w (made (2 * i + 0).toNatClampNeg) := zWd_c (by
    by_cases c : made (2 * i + 0).toNatClampNeg = (-1)
    · exact Or.inl c
    · exact Or.inr (h _ (by (first | ((try clear hk); (try clear h); (try clear H); grind) | grind)) (by (first | ((try clear hk); (try clear h); (try clear H); grind) | grind))).2.2)
  have g1 : zWd w' (made (2 * i + 1).toNatClampNeg) ↔ zWd w (made (2 * i + 1).toNatClampNeg) := zWd_c (by
    by_cases c : made (2 * i + 1).toNatClampNeg = (-1)
    · exact Or.inl c
    · exact Or.inr (h _ (by (first | ((try clear hk); (try clear h); (try clear H); grind) | grind)) (by (first | ((try clear hk); (try clear h); (try clear H); grind) | grind))).2.2)
  unfold zRN1
  rw [e1, e2, f1, f2, f3, g0, g1]
  exact H
set_option maxHeartbeats 4000000 in
theorem zFill {cN p2 p3 : Int32} {op made amt wd : Nat → Int32} {lo hi : Nat → Int64} {x : (Nat → Int64) × (Nat → Int64) × (Nat → Int32)} (hN : 0 ≤ cN ∧ cN ≤ 14) (hk : ∀ i : Int32, 0 ≤ i → i < cN → zOk i op made) (h : fn_X6_fill p2 p3 cN op made amt lo hi wd = some x) : zRN cN p2 p3.toInt64 op made amt x.2.2 x.1 x.2.1 := by
  unfold fn_X6_fill at h
  refine zl_ip (P := fun x : (Nat → Int64) × (Nat → Int64) × (Nat → Int32) => zRN cN p2 p3.toInt64 op made amt x.2.2 x.1 x.2.1) (fun s => 0 ≤ s.1 ∧ s.1 ≤ cN ∧ zRN s.1 p2 p3.toInt64 op made amt s.2.2.2 s.2.1 s.2.2.1) ?_ _ _ _ ?_ h
  rotate_left
  · exact ⟨(show (0 : Int32) ≤ 0 by decide), hN.1, fun i i0 i1 => absurd i1 (by show ¬ i < 0; (first | ((try clear hk); (try clear h); grind) | grind))⟩
  intro s back o ⟨H1, H2, H3⟩ hb ho
  obtain ⟨i, lo, hi, wd⟩ := s
  dsimp only at H1 H2 H3 ho
  by_cases c : cN ≤ i
  · rw [if_pos c] at ho
    have e : i = cN := by (first | ((try clear hk); (try clear h); (try clear hb); (try clear ho); grind) | grind)
    subst e
    rw [← Option.some.inj ho]
    exact H3
  · rw [if_neg c] at ho
    have hi' : 0 ≤ i ∧ i < cN := ⟨H1, by (first | ((try clear hk); (try clear h); (try clear hb); (try clear ho); grind) | grind)⟩
    have h14 : 0 ≤ i ∧ i < 14 := ⟨H1, by (first | ((try clear hk); (try clear h); (try clear hb); (try clear ho); grind) | grind)⟩
    have ok := hk i hi'.1 hi'.2
    obtain ⟨j, ej, ho⟩ := zj_g ho
    try dsimp only at ho
    have ho : j (if i = p2 then p3.toInt64 else 0) = some o := by
      by_cases q : i = p2
      · rw [if_pos q] at ho ⊢; exact ho
      · rw [if_neg q] at ho ⊢; exact ho
    have ho := zj_s ej ho
    try dsimp only at ho
    clear ej
    rw [zLwJ hN.2 hi' ok, zb_some, zHeld, zb_some] at ho
    obtain ⟨-, ho⟩ := zg_s ho
    rw [zHgJ hN.2 hi' ok, zb_some, zHeld, zb_some, zAmtOf h14, zb_some] at ho
    generalize hm : (if i = p2 then p3.toInt64 else 0) = more at ho
    generalize hA : zHd (zLw i op made amt lo hi - more) = A at ho
    have eH := (zLw_b (amt := amt) (lo := lo) (hi := hi) (lo' := vp_updL lo i.toNatClampNeg A) (hi' := hi) ok (fun j j0 j1 => ⟨by rw [zupL H1 j0, if_neg (by (first | ((try clear hk); (try clear h); (try clear hb); (try clear ho); (try clear ej); grind) | grind))], rfl⟩)).2
    rw [eH] at ho
    generalize hB : zHd (zHg i op made amt lo hi + more) = B at ho
    have fin : ∀ v : Int32, (v = 1 ∧ (1000000000 < zMx (zAb A) (zAb B) ∨ zWd wd (made (2 * i + 0).toNatClampNeg) ∨ zWd wd (made (2 * i + 1).toNatClampNeg)) ∨ v = 0 ∧ ¬ (1000000000 < zMx (zAb A) (zAb B) ∨ zWd wd (made (2 * i + 0).toNatClampNeg) ∨ zWd wd (made (2 * i + 1).toNatClampNeg))) → back (i + 1, vp_updL lo i.toNatClampNeg A, vp_updL hi i.toNatClampNeg B, upd wd i.toNatClampNeg v) = some o → zRN cN p2 p3.toInt64 op made amt o.2.2 o.1 o.2.1 := by
      intro v hv hbk
      refine hb _ _ ?_ hbk
      refine ⟨(show 0 ≤ i + 1 by (first | ((try clear hk); (try clear h); (try clear hb); (try clear ho); (try clear ej); (try clear fin); grind) | grind)), (show i + 1 ≤ cN by (first | ((try clear hk); (try clear h); (try clear hb); (try clear ho); (try clear ej); (try clear fin); grind) | grind)), fun j j0 j1 => ?_⟩
      have j1 : j < i + 1 := j1
      show zRN1 j p2 p3.toInt64 op made amt (upd wd i.toNatClampNeg v) (vp_updL lo i.toNatClampNeg A) (vp_updL hi i.toNatClampNeg B)
      by_cases q : j = i
      · subst q
        have nn : ∀ m : Int32, 0 ≤ m → m < j → vp_updL lo j.toNatClampNeg A m.toNatClampNeg = lo m.toNatClampNeg ∧ vp_updL hi j.toNatClampNeg B m.toNatClampNeg = hi m.toNatClampNeg := fun m m0 m1 => ⟨by rw [zupL H1 m0, if_neg (by (first | ((try clear hk); (try clear h); (try clear hb); (try clear ho); (try clear ej); (try clear fin); (try clear nn); grind) | grind))], by rw [zupL H1 m0, if_neg (by (first | ((try clear hk); (try clear h); (try clear hb); (try clear ho); (try clear ej); (try clear fin); (try clear nn); grind) | grind))]⟩
        obtain ⟨e1, e2⟩ := zLw_b (amt := amt) ok nn
        obtain ⟨k1, k2, k3, k4⟩ := ok
        have g0 : zWd (upd wd j.toNatClampNeg v) (made (2 * j + 0).toNatClampNeg) ↔ zWd wd (made (2 * j + 0).toNatClampNeg) := zWd_c (by
          by_cases c : made (2 * j + 0).toNatClampNeg = (-1)
          · exact Or.inl c
          · exact Or.inr (by rw [zup H1 (by (first | ((try clear hk); (try clear h); (try clear hb); (try clear ho); (try clear ej); (try clear fin); (try clear nn); grind) | grind)), if_neg (by (first | ((try clear hk); (try clear h); (try clear hb); (try clear ho); (try clear ej); (try clear fin); (try clear nn); grind) | grind))]))
        have g1 : zWd (upd wd j.toNatClampNeg v) (made (2 * j + 1).toNatClampNeg) ↔ zWd wd (made (2 * j + 1).toNatClampNeg) := zWd_c (by
          by_cases c : made (2 * j + 1).toNatClampNeg = (-1)
          · exact Or.inl c
          · exact Or.inr (by rw [zup H1 (by (first | ((try clear hk); (try clear h); (try clear hb); (try clear ho); (try clear ej); (try clear fin); (try clear nn); grind) | grind)), if_neg (by (first | ((try clear hk); (try clear h); (try clear hb); (try clear ho); (try clear ej); (try clear fin); (try clear nn); grind) | grind))]))
        unfold zRN1
        rw [e1, e2, g0, g1, zupL H1 H1, zupL H1 H1, zup H1 H1, if_pos rfl, if_pos rfl, if_pos rfl, hm]
        exact ⟨hA.symm, hB.symm, hv⟩
      · have lt : j < i := by (first | ((try clear hk); (try clear h); (try clear hb); (try clear ho); (try clear ej); (try clear fin); (try clear nn); grind) | grind)
        refine zRN1_c j0 (hk j j0 (by (first | ((try clear hk); (try clear h); (try clear hb); (try clear ho); (try clear ej); (try clear fin); (try clear nn); grind) | grind))) (fun m m0 m1 => ?_) (by (first | ((try clear hk); (try clear h); (try clear hb); (try clear ho); (try clear ej); (try clear fin); (try clear nn); grind) | grind)) (H3 j j0 lt)
        have ne : ¬ m = i := by (first | ((try clear hk); (try clear h); (try clear hb); (try clear ho); (try clear ej); (try clear fin); (try clear nn); grind) | grind)
        rw [zupL H1 m0, zupL H1 m0, zup H1 m0, if_neg ne, if_neg ne, if_neg ne]
        exact ⟨rfl, rfl, rfl⟩
    rw [zupL H1 H1, zupL H1 H1, if_pos rfl, if_pos rfl] at ho
    by_cases d : 1000000000 < zMx (zAb A) (zAb B)
    · rw [if_pos ((lg_cmp_gt _ _).mpr d)] at ho
      exact fin _ (Or.inl ⟨rfl, Or.inl d⟩) ho
    · rw [if_neg (fun q => d ((lg_cmp_gt _ _).mp q)), zMade0 hN.2 hi', zb_some] at ho
      obtain ⟨w0, hw0, ho⟩ := zb_s ho
      rcases zIsWide ⟨ok.2.1.1, by have := ok.2.1.2; (first | ((try clear hk); (try clear h); (try clear hb); (try clear ho); (try clear ej); (try clear fin); (try clear nn); (try clear hw0); grind) | grind)⟩ hw0 with ⟨z1, z2⟩ | ⟨z1, z2⟩
      · rw [if_pos z1, zMade1 hN.2 hi', zb_some] at ho
        obtain ⟨w1, hw1, ho⟩ := zb_s ho
        rcases zIsWide ⟨ok.2.2.1.1, by have := ok.2.2.1.2; (first | ((try clear hk); (try clear h); (try clear hb); (try clear ho); (try clear ej); (try clear fin); (try clear nn); (try clear hw0); (try clear hw1); grind) | grind)⟩ hw1 with ⟨y1, y2⟩ | ⟨y1, y2⟩
        · rw [if_pos y1] at ho
          exact fin _ (Or.inr ⟨rfl, fun q => q.elim d (fun q => q.elim z2 y2)⟩) ho
        · rw [if_neg (by rw [y1]; decide)] at ho
          exact fin _ (Or.inl ⟨rfl, Or.inr (Or.inr y2)⟩) ho
      · rw [if_neg (by rw [z1]; decide)] at ho
        exact fin _ (Or.inl ⟨rfl, Or.inr (Or.inl z2)⟩) ho
/-! how far both ends may go -/
theorem zAb_le {x c : Int64} (hc : 0 ≤ c) (h : ¬ c < zAb x) (hx : -9223372036854775808 < x) : -c ≤ x ∧ x ≤ c := by
  unfold zAb at h
  by_cases d : 0 < x
  · rw [if_pos d] at h
    constructor <;> grind
  · rw [if_neg d] at h
    constructor <;> grind
theorem zHd_b (x : Int64) : -2000000000 ≤ zHd x ∧ zHd x ≤ 2000000000 := by
  unfold zHd
  constructor <;> grind
theorem zHd_in {x : Int64} (h : -2000000000 ≤ x ∧ x ≤ 2000000000) : zHd x = x := by
  unfold zHd
  grind
theorem zHd_w {x : Int64} (hx : -9223372036854775808 < x) : 1000000000 < zAb (zHd x) ↔ 1000000000 < zAb x := by
  by_cases h : -2000000000 ≤ x ∧ x ≤ 2000000000
  · rw [zHd_in h]
  · have e : zHd x = 2000000000 ∧ 2000000000 < x ∨ zHd x = -2000000000 ∧ x < -2000000000 := by
      unfold zHd
      grind
    rcases e with ⟨e1, e2⟩ | ⟨e1, e2⟩
    · rw [e1]
      unfold zAb
      rw [if_pos (by decide), if_pos (by grind)]
      exact ⟨fun _ => by grind, fun _ => by decide⟩
    · rw [e1]
      unfold zAb
      rw [if_neg (by decide), if_neg (by grind)]
      exact ⟨fun _ => by grind, fun _ => by decide⟩
theorem zdv2000 (x : Int64) : -4611686018427388 ≤ x / 2000 ∧ x / 2000 ≤ 4611686018427388 := by
  have e : (x / 2000).toInt = x.toInt.tdiv 2000 := by
    rw [Int64.toInt_div_of_ne_right]
    · rfl
    · decide
  have h1 := Int64.toInt_lt x
  have h2 := Int64.le_toInt x
  have h3 : -4611686018427388 ≤ x.toInt.tdiv 2000 ∧ x.toInt.tdiv 2000 ≤ 4611686018427388 := by
    by_cases c : 0 ≤ x.toInt
    · rw [Int.tdiv_eq_ediv_of_nonneg c]
      omega
    · have := Int.tdiv_eq_ediv_of_nonneg (a := -x.toInt) (b := 2000) (by omega)
      rw [Int.neg_tdiv] at this
      omega
  refine ⟨Int64.le_iff_toInt_le.mpr ?_, Int64.le_iff_toInt_le.mpr ?_⟩
  · rw [e, show (-4611686018427388 : Int64).toInt = -4611686018427388 by decide +kernel]
    exact h3.1
  · rw [e, show (4611686018427388 : Int64).toInt = 4611686018427388 by decide +kernel]
    exact h3.2
theorem zPr_b (a b : Int64) : -5000000000000000 ≤ zPr a b 1 ∧ zPr a b 1 ≤ 5000000000000000 := by
  unfold zPr zFd
  rw [show (2000 * 1 : Int64) = 2000 by decide]
  have h := zdv2000 (2 * a * b + 1000 * 1)
  generalize (2 * a * b + 1000 * 1) = x at h ⊢
  generalize x / 2000 = q at h ⊢
  by_cases c : x - q * 2000 = 0
  · rw [if_pos c, Int64.mul_one]
    constructor <;> grind
  · rw [if_neg c]
    by_cases d : 0 ≤ x
    · rw [if_pos d, Int64.mul_one]
      constructor <;> grind
    · rw [if_neg d, Int64.mul_one]
      constructor <;> grind
theorem zVal_r {m a : Int32} {row : Nat → Int64} (ha : (-10000000) ≤ a ∧ a ≤ 10000000) (h : m = (-1) ∨ (-1000000000 ≤ row m.toNatClampNeg ∧ row m.toNatClampNeg ≤ 1000000000)) : -1000000000 ≤ zVal m a row ∧ zVal m a row ≤ 1000000000 := by
  unfold zVal
  by_cases c : m = (-1)
  · rw [if_pos c, show (-1000000000 : Int64) = (-1000000000 : Int32).toInt64 by decide +kernel, show (1000000000 : Int64) = (1000000000 : Int32).toInt64 by decide +kernel, z64_le, z64_le]
    constructor <;> grind
  · rw [if_neg c]
    exact h.resolve_left c
theorem zLoV_b {p : Int32} {a b c d : Int64} (ha : -1000000000 ≤ a ∧ a ≤ 1000000000) (hb : -1000000000 ≤ b ∧ b ≤ 1000000000) (hc : -1000000000 ≤ c ∧ c ≤ 1000000000) (hd : -1000000000 ≤ d ∧ d ≤ 1000000000) : (-5000000000000000 ≤ zLoV p a b c d ∧ zLoV p a b c d ≤ 5000000000000000) ∧ (-5000000000000000 ≤ zHiV p a b c d ∧ zHiV p a b c d ≤ 5000000000000000) := by
  have p1 := zPr_b a c
  have p2 := zPr_b a d
  have p3 := zPr_b b c
  have p4 := zPr_b b d
  unfold zLoV zHiV zAp
  generalize zPr a c 1 = q1 at p1 ⊢
  generalize zPr a d 1 = q2 at p2 ⊢
  generalize zPr b c 1 = q3 at p3 ⊢
  generalize zPr b d 1 = q4 at p4 ⊢
  have mn : ∀ x y : Int64, zLs x y = x ∨ zLs x y = y := fun x y => by unfold zLs; (first | ((try clear mn); grind) | grind)
  have mx : ∀ x y : Int64, zMx x y = x ∨ zMx x y = y := fun x y => by unfold zMx; (first | ((try clear mn); (try clear mx); grind) | grind)
  by_cases c2 : p = 2
  · rw [if_pos c2, if_pos c2]
    refine ⟨⟨?_, ?_⟩, ?_, ?_⟩ <;> (first | ((try clear mn); (try clear mx); grind) | grind)
  · rw [if_neg c2, if_neg c2]
    by_cases c3 : p = 3
    · rw [if_pos c3, if_pos c3]
      have m1 := mn q1 q2
      have m2 := mn q3 q4
      have m3 := mn (zLs q1 q2) (zLs q3 q4)
      have n1 := mx q1 q2
      have n2 := mx q3 q4
      have n3 := mx (zMx q1 q2) (zMx q3 q4)
      generalize zLs q1 q2 = u1 at m1 m3 ⊢
      generalize zLs q3 q4 = u2 at m2 m3 ⊢
      generalize zLs u1 u2 = u3 at m3 ⊢
      generalize zMx q1 q2 = v1 at n1 n3 ⊢
      generalize zMx q3 q4 = v2 at n2 n3 ⊢
      generalize zMx v1 v2 = v3 at n3 ⊢
      refine ⟨⟨?_, ?_⟩, ?_, ?_⟩ <;> (first | ((try clear mn); (try clear mx); grind) | grind)
    · rw [if_neg c3, if_neg c3, if_neg c3, if_neg c2, if_neg c3, if_neg c2]
      have m1 := mn a c
      have n1 := mx a c
      have m2 := mn b d
      have n2 := mx b d
      generalize zLs a c = u1 at m1 ⊢
      generalize zMx a c = u2 at n1 ⊢
      generalize zLs b d = u3 at m2 ⊢
      generalize zMx b d = u4 at n2 ⊢
      by_cases c1 : p = 1
      · rw [if_pos c1, if_pos c1]
        refine ⟨⟨?_, ?_⟩, ?_, ?_⟩ <;> (first | ((try clear mn); (try clear mx); grind) | grind)
      · rw [if_neg c1, if_neg c1]
        by_cases c4 : p = 4
        · rw [if_pos c4, if_pos c4]
          refine ⟨⟨?_, ?_⟩, ?_, ?_⟩ <;> (first | ((try clear mn); (try clear mx); grind) | grind)
        · rw [if_neg c4, if_neg c4]
          refine ⟨⟨?_, ?_⟩, ?_, ?_⟩ <;> (first | ((try clear mn); (try clear mx); grind) | grind)
theorem zLw_r {i cF : Int32} {nN op fx al made amt lets mNN mO m1 m2 mX mW : Nat → Int32} {mA mB lo hi : Nat → Int64} (hk : zN01 i cF nN op fx al made amt lets mNN mO m1 m2 mX mW mA mB) (h0 : made (2 * i + 0).toNatClampNeg = (-1) ∨ ((-1000000000 ≤ lo (made (2 * i + 0).toNatClampNeg).toNatClampNeg ∧ lo (made (2 * i + 0).toNatClampNeg).toNatClampNeg ≤ 1000000000) ∧ (-1000000000 ≤ hi (made (2 * i + 0).toNatClampNeg).toNatClampNeg ∧ hi (made (2 * i + 0).toNatClampNeg).toNatClampNeg ≤ 1000000000))) (h1 : made (2 * i + 1).toNatClampNeg = (-1) ∨ ((-1000000000 ≤ lo (made (2 * i + 1).toNatClampNeg).toNatClampNeg ∧ lo (made (2 * i + 1).toNatClampNeg).toNatClampNeg ≤ 1000000000) ∧ (-1000000000 ≤ hi (made (2 * i + 1).toNatClampNeg).toNatClampNeg ∧ hi (made (2 * i + 1).toNatClampNeg).toNatClampNeg ≤ 1000000000))) : (-5000000000000000 ≤ zLw i op made amt lo hi ∧ zLw i op made amt lo hi ≤ 5000000000000000) ∧ (-5000000000000000 ≤ zHg i op made amt lo hi ∧ zHg i op made amt lo hi ≤ 5000000000000000) := by
  obtain ⟨q1, q2, q3, q4, q5, q6, q7, q8, q9, q10, q11, q12, q13, q14, q15, q16, q17⟩ := hk
  unfold zLw zHg
  by_cases c : op i.toNatClampNeg = 0
  · rw [if_pos c, if_pos c, show (-5000000000000000 : Int64) ≤ (amt (2 * i + 0).toNatClampNeg).toInt64 ↔ True from ⟨fun _ => trivial, fun _ => ?_⟩, show (-5000000000000000 : Int64) ≤ (amt (2 * i + 1).toNatClampNeg).toInt64 ↔ True from ⟨fun _ => trivial, fun _ => ?_⟩]
    · refine ⟨⟨trivial, ?_⟩, trivial, ?_⟩
      · exact Int64.le_iff_toInt_le.mpr (by rw [z64_i, show (5000000000000000 : Int64).toInt = 5000000000000000 by decide +kernel]; have := Int32.toInt_lt (amt (2 * i + 0).toNatClampNeg); omega)
      · exact Int64.le_iff_toInt_le.mpr (by rw [z64_i, show (5000000000000000 : Int64).toInt = 5000000000000000 by decide +kernel]; have := Int32.toInt_lt (amt (2 * i + 1).toNatClampNeg); omega)
    · exact Int64.le_iff_toInt_le.mpr (by rw [z64_i, show (-5000000000000000 : Int64).toInt = -5000000000000000 by decide +kernel]; have := Int32.le_toInt (amt (2 * i + 1).toNatClampNeg); omega)
    · exact Int64.le_iff_toInt_le.mpr (by rw [z64_i, show (-5000000000000000 : Int64).toInt = -5000000000000000 by decide +kernel]; have := Int32.le_toInt (amt (2 * i + 0).toNatClampNeg); omega)
  · rw [if_neg c, if_neg c]
    exact zLoV_b (zVal_r q14 (h0.imp id (fun q => q.1))) (zVal_r q14 (h0.imp id (fun q => q.2))) (zVal_r q15 (h1.imp id (fun q => q.1))) (zVal_r q15 (h1.imp id (fun q => q.2)))
theorem zGrPt {m x : Int32} {ig : Nat → Int32} (h : fn_X12_isGreatPart m ig = some x) : x = 0 ∧ ¬ zWd ig m ∨ x = 1 ∧ zWd ig m := by
  unfold fn_X12_isGreatPart at h
  by_cases c : m = (-1)
  · rw [if_pos c] at h
    exact Or.inl ⟨(Option.some.inj h).symm, fun q => q.1 c⟩
  · rw [if_neg c] at h
    obtain ⟨-, h⟩ := zg_s h
    by_cases d : ig m.toNatClampNeg = 0
    · rw [if_pos d] at h
      exact Or.inl ⟨(Option.some.inj h).symm, fun q => q.2 d⟩
    · rw [if_neg d] at h
      exact Or.inr ⟨(Option.some.inj h).symm, c, d⟩
set_option maxHeartbeats 4000000 in
theorem zeq_range {cF cc cN inp mWn : Int32} {nF nN stp mst prc al made amt op fx jn lets rwd mF mN mCst mNF mNN mS mM mC mW mO m1 m2 mX mG mIg : Nat → Int32} {rlo rhi mA mB mLe mGe : Nat → Int64} {mWb : Int64} {p1 p2 : Int32} {x : Int64} {y : Int64 × Int32 × (Nat → Int32) × (Nat → Int64) × (Nat → Int64)} (T : zTN cF cc cN inp nF nN stp mst prc al made amt op fx jn lets mF mN mNF mNN mS mM mC mW mCst mO m1 m2 mX mG mA mB) (R : zRN cN (-1) 0 op made amt rwd rlo rhi) (h1 : fn_X11_range p1 p2 cN rwd rlo rhi = some x) (h2 : fn_X12_range p1 p2 mWn mWb mN m1 mIg m2 mO mLe mA mB mGe = some y) : x = y.1 := by
  obtain ⟨hF, ⟨n1, n2, n3⟩, hC, hz, hp, hI, hf, hn, hg⟩ := T
  unfold fn_X11_range at h1
  unfold fn_X12_range at h2
  rw [zHasN, zb_some] at h1
  rw [zIsNum (by rw [n1]; exact n2), zb_some, n1] at h2
  by_cases c : 0 ≤ p1 ∧ p1 < cN
  · rw [if_neg (by rw [zif1]; exact fun q => q c)] at h1 h2
    obtain ⟨-, h1⟩ := zg_s h1
    refine zl_ip (P := fun y : Int64 × Int32 × (Nat → Int32) × (Nat → Int64) × (Nat → Int64) => x = y.1) (fun s => 0 ≤ s.1 ∧ s.1 ≤ p1 + 1 ∧ ∀ j : Int32, 0 ≤ j → j < s.1 → s.2.2.2 j.toNatClampNeg = rwd j.toNatClampNeg ∧ (rwd j.toNatClampNeg = 0 → s.2.1 j.toNatClampNeg = rlo j.toNatClampNeg ∧ s.2.2.1 j.toNatClampNeg = rhi j.toNatClampNeg)) ?_ _ _ _ ?_ h2
    rotate_left
    · exact ⟨(show (0 : Int32) ≤ 0 by decide), (show 0 ≤ p1 + 1 by (first | ((try clear T); (try clear R); (try clear h1); (try clear h2); (try clear hC); (try clear hI); (try clear hf); (try clear hn); (try clear hg); grind) | grind)), fun j j1 j2 => absurd j2 (by show ¬ j < 0; (first | ((try clear T); (try clear R); (try clear h1); (try clear h2); (try clear hC); (try clear hI); (try clear hf); (try clear hn); (try clear hg); grind) | grind))⟩
    intro s back o ⟨H1, H2, H3⟩ hb ho
    obtain ⟨k, lo, hi, ig⟩ := s
    dsimp only at H1 H2 H3 ho
    by_cases e : p1 < k
    · rw [if_pos e] at ho
      obtain ⟨-, ho⟩ := zg_s ho
      obtain ⟨a1, a2⟩ := H3 p1 c.1 e
      by_cases w : rwd p1.toNatClampNeg = 0
      · obtain ⟨a3, a4⟩ := a2 w
        rw [if_pos w] at h1
        rw [if_pos (a1.trans w)] at ho
        by_cases v : p2 = 0
        · rw [if_pos v] at h1 ho
          rw [← Option.some.inj ho, ← Option.some.inj h1]; exact a3.symm
        · rw [if_neg v] at h1 ho
          rw [← Option.some.inj ho, ← Option.some.inj h1]; exact a4.symm
      · rw [if_neg w] at h1
        rw [if_neg (fun q => w (a1.symm.trans q))] at ho
        rw [← Option.some.inj ho, ← Option.some.inj h1]
    · rw [if_neg e] at ho
      have hk : 0 ≤ k ∧ k < cN := ⟨H1, by (first | ((try clear T); (try clear R); (try clear h1); (try clear h2); (try clear hC); (try clear hI); (try clear hf); (try clear hn); (try clear hg); (try clear hb); (try clear ho); grind) | grind)⟩
      obtain ⟨-, ho⟩ := zg_s ho
      obtain ⟨w0, hw0, ho⟩ := zb_s ho
      have hn1 := hn k hk.1 hk.2
      obtain ⟨q1, q2, q3, q4, q5, q6, q7, q8, q9, q10, q11, q12, q13, q14, q15, q16, q17⟩ := hn k hk.1 hk.2
      obtain ⟨r1, r2, r3⟩ := R k hk.1 hk.2
      rw [if_neg (show ¬ k = (-1) by (first | ((try clear T); (try clear R); (try clear h1); (try clear h2); (try clear hC); (try clear hI); (try clear hf); (try clear hn); (try clear hg); (try clear hb); (try clear ho); (try clear hw0); grind) | grind)), Int64.sub_zero] at r1
      rw [if_neg (show ¬ k = (-1) by (first | ((try clear T); (try clear R); (try clear h1); (try clear h2); (try clear hC); (try clear hI); (try clear hf); (try clear hn); (try clear hg); (try clear hb); (try clear ho); (try clear hw0); grind) | grind)), Int64.add_zero] at r2
      have gw : ∀ m : Int32, (-1) ≤ m → m < k → (zWd ig m ↔ zWd rwd m) := fun m m0 m1 => zWd_c (by
        by_cases c : m = (-1)
        · exact Or.inl c
        · exact Or.inr (H3 m (by (first | ((try clear T); (try clear R); (try clear h1); (try clear h2); (try clear hC); (try clear hI); (try clear hf); (try clear hn); (try clear hg); (try clear hb); (try clear ho); (try clear hw0); (try clear gw); grind) | grind)) m1).1)
      have fin : ∀ (v : Int32) (lo' hi' : Nat → Int64), v = rwd k.toNatClampNeg → (∀ j : Int32, 0 ≤ j → j < k → lo' j.toNatClampNeg = lo j.toNatClampNeg ∧ hi' j.toNatClampNeg = hi j.toNatClampNeg) → (rwd k.toNatClampNeg = 0 → lo' k.toNatClampNeg = rlo k.toNatClampNeg ∧ hi' k.toNatClampNeg = rhi k.toNatClampNeg) → ∀ g : Nat → Int32, (∀ j : Int32, 0 ≤ j → g j.toNatClampNeg = if j = k then v else ig j.toNatClampNeg) → back (k + 1, lo', hi', g) = some o → x = o.1 := by
        intro v lo' hi' hv hl hl2 g hgg hbk
        refine hb _ _ ?_ hbk
        refine ⟨(show 0 ≤ k + 1 by (first | ((try clear T); (try clear R); (try clear h1); (try clear h2); (try clear hC); (try clear hI); (try clear hf); (try clear hn); (try clear hg); (try clear hb); (try clear ho); (try clear hw0); (try clear gw); (try clear fin); grind) | grind)), (show k + 1 ≤ p1 + 1 by (first | ((try clear T); (try clear R); (try clear h1); (try clear h2); (try clear hC); (try clear hI); (try clear hf); (try clear hn); (try clear hg); (try clear hb); (try clear ho); (try clear hw0); (try clear gw); (try clear fin); grind) | grind)), fun j j1 j2 => ?_⟩
        have j2 : j < k + 1 := j2
        show g j.toNatClampNeg = rwd j.toNatClampNeg ∧ (rwd j.toNatClampNeg = 0 → lo' j.toNatClampNeg = rlo j.toNatClampNeg ∧ hi' j.toNatClampNeg = rhi j.toNatClampNeg)
        rw [hgg j j1]
        by_cases w : j = k
        · rw [if_pos w, w]; exact ⟨hv, hl2⟩
        · have lt : j < k := by (first | ((try clear T); (try clear R); (try clear h1); (try clear h2); (try clear hC); (try clear hI); (try clear hf); (try clear hn); (try clear hg); (try clear hb); (try clear ho); (try clear hw0); (try clear gw); (try clear fin); grind) | grind)
          rw [if_neg w, (hl j j1 lt).1, (hl j j1 lt).2]; exact H3 j j1 lt
      obtain ⟨j16, e16, ho⟩ := zj_g ho
      try dsimp only at ho
      simp only [zj] at ho
      have main : (zWd rwd (made (2 * k + 0).toNatClampNeg) ∨ zWd rwd (made (2 * k + 1).toNatClampNeg)) ∧ j16 1 = some o ∨ ¬ (zWd rwd (made (2 * k + 0).toNatClampNeg) ∨ zWd rwd (made (2 * k + 1).toNatClampNeg)) ∧ j16 0 = some o := by
        rcases zGrPt hw0 with ⟨z1, z2⟩ | ⟨z1, z2⟩
        · rw [if_pos z1] at ho
          obtain ⟨w1, hw1, ho⟩ := zb_s ho
          rcases zGrPt hw1 with ⟨y1, y2⟩ | ⟨y1, y2⟩
          · rw [if_pos y1] at ho
            rw [← q5, gw _ q12.1 q12.2] at z2
            rw [← q6, gw _ q13.1 q13.2] at y2
            exact Or.inr ⟨fun q => q.elim z2 y2, ho⟩
          · rw [if_neg (by rw [y1]; decide)] at ho
            rw [← q6, gw _ q13.1 q13.2] at y2
            exact Or.inl ⟨Or.inr y2, ho⟩
        · rw [if_neg (by rw [z1]; decide)] at ho
          rw [← q5, gw _ q12.1 q12.2] at z2
          exact Or.inl ⟨Or.inl z2, ho⟩
      rcases main with ⟨z, ho⟩ | ⟨z, ho⟩
      · have ho := zj_s e16 ho
        try dsimp only at ho
        obtain ⟨-, ho⟩ := zg_s ho
        simp only [zn] at ho
        have ex : upd ig k.toNatClampNeg (vp_nar .boolean 1) k.toNatClampNeg = 1 := by rw [zup H1 H1, if_pos rfl]; rfl
        rw [ex, if_neg (by decide)] at ho
        refine fin 1 lo hi ?_ (fun _ _ _ => ⟨rfl, rfl⟩) (fun w => ?_) _ (fun j j1 => zup H1 j1) ho
        · rcases r3 with ⟨u1, _⟩ | ⟨_, u2⟩
          · exact u1.symm
          · exact absurd (Or.inr z) u2
        · rcases r3 with ⟨u1, _⟩ | ⟨_, u2⟩
          · rw [u1] at w; exact absurd w (by decide)
          · exact absurd (Or.inr z) u2
      · have ho := zj_s e16 ho
        try dsimp only at ho
        obtain ⟨-, ho⟩ := zg_s ho
        simp only [zn] at ho
        have ex : upd ig k.toNatClampNeg (vp_nar .boolean 0) k.toNatClampNeg = 0 := by rw [zup H1 H1, if_pos rfl]; rfl
        rw [ex, if_pos rfl] at ho
        obtain ⟨u, hu, ho⟩ := zb_s ho
        obtain ⟨v, hv, ho⟩ := zb_s ho
        have hu := zLaysR hn1 hu
        have hv := zMostM hv
        rw [if_neg (show ¬ (k = (-1) ∧ op k.toNatClampNeg = 0) from fun q => by have := q.1; (first | ((try clear T); (try clear R); (try clear h1); (try clear h2); (try clear hC); (try clear hI); (try clear hf); (try clear hn); (try clear hg); (try clear hb); (try clear ho); (try clear hw0); (try clear gw); (try clear fin); (try clear e16); (try clear main); (try clear hw1); grind) | grind)), Int64.sub_zero, Int64.add_zero] at hu
        have part : ∀ m : Int32, (-1) ≤ m → m < k → ¬ zWd rwd m → m = (-1) ∨ (lo m.toNatClampNeg = rlo m.toNatClampNeg ∧ hi m.toNatClampNeg = rhi m.toNatClampNeg) ∧ (-1000000000 ≤ rlo m.toNatClampNeg ∧ rlo m.toNatClampNeg ≤ 1000000000) ∧ (-1000000000 ≤ rhi m.toNatClampNeg ∧ rhi m.toNatClampNeg ≤ 1000000000) := by
          intro m m0 m1 m2
          by_cases w : m = (-1)
          · exact Or.inl w
          · have m0' : 0 ≤ m := by (first | ((try clear T); (try clear R); (try clear h1); (try clear h2); (try clear hC); (try clear hI); (try clear hf); (try clear hn); (try clear hg); (try clear hb); (try clear ho); (try clear hw0); (try clear gw); (try clear fin); (try clear e16); (try clear main); (try clear hw1); (try clear part); grind) | grind)
            have w0 : rwd m.toNatClampNeg = 0 := by
              by_cases w0 : rwd m.toNatClampNeg = 0
              · exact w0
              · exact absurd ⟨w, w0⟩ m2
            obtain ⟨s1, s2, s3⟩ := R m m0' (by (first | ((try clear T); (try clear R); (try clear h1); (try clear h2); (try clear hC); (try clear hI); (try clear hf); (try clear hn); (try clear hg); (try clear hb); (try clear ho); (try clear hw0); (try clear gw); (try clear fin); (try clear e16); (try clear main); (try clear hw1); (try clear part); grind) | grind))
            have b1 := zHd_b (zLw m op made amt rlo rhi - (if m = (-1) then 0 else 0))
            have b2 := zHd_b (zHg m op made amt rlo rhi + (if m = (-1) then 0 else 0))
            rw [← s1] at b1
            rw [← s2] at b2
            have s4 : ¬ 1000000000 < zMx (zAb (rlo m.toNatClampNeg)) (zAb (rhi m.toNatClampNeg)) := by
              rcases s3 with ⟨t1, _⟩ | ⟨_, t2⟩
              · rw [t1] at w0; exact absurd w0 (by decide)
              · exact fun q => t2 (Or.inl q)
            rw [zMx_gt] at s4
            exact Or.inr ⟨(H3 m m0' m1).2 w0, zAb_le (by decide) (fun q => s4 (Or.inl q)) (by (first | ((try clear T); (try clear R); (try clear h1); (try clear h2); (try clear hC); (try clear hI); (try clear hf); (try clear hn); (try clear hg); (try clear hb); (try clear ho); (try clear hw0); (try clear gw); (try clear fin); (try clear e16); (try clear main); (try clear hw1); (try clear part); grind) | grind)), zAb_le (by decide) (fun q => s4 (Or.inr q)) (by (first | ((try clear T); (try clear R); (try clear h1); (try clear h2); (try clear hC); (try clear hI); (try clear hf); (try clear hn); (try clear hg); (try clear hb); (try clear ho); (try clear hw0); (try clear gw); (try clear fin); (try clear e16); (try clear main); (try clear hw1); (try clear part); grind) | grind))⟩
        have pa := part _ q12.1 q12.2 (fun q => z (Or.inl q))
        have pb := part _ q13.1 q13.2 (fun q => z (Or.inr q))
        obtain ⟨e1, e2⟩ := zLw_c (i := k) (op := op) (amt := amt) (made := made) (lo' := lo) (hi' := hi) (lo := rlo) (hi := rhi) (pa.imp id (fun q => q.1)) (pb.imp id (fun q => q.1))
        have bb := zLw_r hn1 (lo := rlo) (hi := rhi) (pa.imp id (fun q => q.2)) (pb.imp id (fun q => q.2))
        rw [e1, e2] at hu
        have eu1 : u.1 k.toNatClampNeg = zLw k op made amt rlo rhi := by rw [hu]; show vp_updL lo k.toNatClampNeg _ k.toNatClampNeg = _; rw [zupL H1 H1, if_pos rfl]
        have eu2 : u.2 k.toNatClampNeg = zHg k op made amt rlo rhi := by rw [hu]; show vp_updL hi k.toNatClampNeg _ k.toNatClampNeg = _; rw [zupL H1 H1, if_pos rfl]
        have elt : ∀ j : Int32, 0 ≤ j → j < k → u.1 j.toNatClampNeg = lo j.toNatClampNeg ∧ u.2 j.toNatClampNeg = hi j.toNatClampNeg := by
          intro j j1 j2
          rw [hu]
          exact ⟨by show vp_updL lo k.toNatClampNeg _ j.toNatClampNeg = _; rw [zupL H1 j1, if_neg (by (first | ((try clear T); (try clear R); (try clear h1); (try clear h2); (try clear hC); (try clear hI); (try clear hf); (try clear hn); (try clear hg); (try clear hb); (try clear ho); (try clear hw0); (try clear gw); (try clear fin); (try clear e16); (try clear main); (try clear hw1); (try clear part); (try clear elt); grind) | grind))], by show vp_updL hi k.toNatClampNeg _ j.toNatClampNeg = _; rw [zupL H1 j1, if_neg (by (first | ((try clear T); (try clear R); (try clear h1); (try clear h2); (try clear hC); (try clear hI); (try clear hf); (try clear hn); (try clear hg); (try clear hb); (try clear ho); (try clear hw0); (try clear gw); (try clear fin); (try clear e16); (try clear main); (try clear hw1); (try clear part); (try clear elt); grind) | grind))]⟩
        rw [eu1, eu2] at hv
        have gt : 1000000000 < v ↔ 1000000000 < zMx (zAb (rlo k.toNatClampNeg)) (zAb (rhi k.toNatClampNeg)) := by
          rw [hv, zMx_gt, zMx_gt, r1, r2, zHd_w (by have := bb.1.1; (first | ((try clear T); (try clear R); (try clear h1); (try clear h2); (try clear hC); (try clear hI); (try clear hf); (try clear hn); (try clear hg); (try clear hb); (try clear ho); (try clear hw0); (try clear gw); (try clear fin); (try clear e16); (try clear main); (try clear hw1); (try clear part); (try clear elt); grind) | grind)), zHd_w (by have := bb.2.1; (first | ((try clear T); (try clear R); (try clear h1); (try clear h2); (try clear hC); (try clear hI); (try clear hf); (try clear hn); (try clear hg); (try clear hb); (try clear ho); (try clear hw0); (try clear gw); (try clear fin); (try clear e16); (try clear main); (try clear hw1); (try clear part); (try clear elt); grind) | grind))]
        by_cases w : v ≤ 1000000000
        · rw [if_pos ((lg_cmp_le _ _).mpr w)] at ho
          have nw : ¬ 1000000000 < zMx (zAb (rlo k.toNatClampNeg)) (zAb (rhi k.toNatClampNeg)) := fun q => by have := gt.mpr q; (first | ((try clear T); (try clear R); (try clear h1); (try clear h2); (try clear hC); (try clear hI); (try clear hf); (try clear hn); (try clear hg); (try clear hb); (try clear ho); (try clear hw0); (try clear gw); (try clear fin); (try clear e16); (try clear main); (try clear hw1); (try clear part); (try clear elt); grind) | grind)
          have r0 : rwd k.toNatClampNeg = 0 := by
            rcases r3 with ⟨_, u2⟩ | ⟨u1, _⟩
            · rcases u2 with u2 | u2
              · exact absurd u2 nw
              · exact absurd u2 z
            · exact u1
          have nv : ¬ 1000000000 < v := by (first | ((try clear T); (try clear R); (try clear h1); (try clear h2); (try clear hC); (try clear hI); (try clear hf); (try clear hn); (try clear hg); (try clear hb); (try clear ho); (try clear hw0); (try clear gw); (try clear fin); (try clear e16); (try clear main); (try clear hw1); (try clear part); (try clear elt); grind) | grind)
          rw [hv, zMx_gt] at nv
          have l1 := zAb_le (c := 1000000000) (by decide) (fun q => nv (Or.inl q)) (by have := bb.1.1; (first | ((try clear T); (try clear R); (try clear h1); (try clear h2); (try clear hC); (try clear hI); (try clear hf); (try clear hn); (try clear hg); (try clear hb); (try clear ho); (try clear hw0); (try clear gw); (try clear fin); (try clear e16); (try clear main); (try clear hw1); (try clear part); (try clear elt); grind) | grind))
          have l2 := zAb_le (c := 1000000000) (by decide) (fun q => nv (Or.inr q)) (by have := bb.2.1; (first | ((try clear T); (try clear R); (try clear h1); (try clear h2); (try clear hC); (try clear hI); (try clear hf); (try clear hn); (try clear hg); (try clear hb); (try clear ho); (try clear hw0); (try clear gw); (try clear fin); (try clear e16); (try clear main); (try clear hw1); (try clear part); (try clear elt); grind) | grind))
          refine fin 0 u.1 u.2 r0.symm elt (fun _ => ⟨?_, ?_⟩) _ (fun j j1 => ?_) ho
          · rw [eu1, r1, zHd_in ⟨by have := l1.1; (first | ((try clear T); (try clear R); (try clear h1); (try clear h2); (try clear hC); (try clear hI); (try clear hf); (try clear hn); (try clear hg); (try clear hb); (try clear ho); (try clear hw0); (try clear gw); (try clear fin); (try clear e16); (try clear main); (try clear hw1); (try clear part); (try clear elt); grind) | grind), by have := l1.2; (first | ((try clear T); (try clear R); (try clear h1); (try clear h2); (try clear hC); (try clear hI); (try clear hf); (try clear hn); (try clear hg); (try clear hb); (try clear ho); (try clear hw0); (try clear gw); (try clear fin); (try clear e16); (try clear main); (try clear hw1); (try clear part); (try clear elt); grind) | grind)⟩]
          · rw [eu2, r2, zHd_in ⟨by have := l2.1; (first | ((try clear T); (try clear R); (try clear h1); (try clear h2); (try clear hC); (try clear hI); (try clear hf); (try clear hn); (try clear hg); (try clear hb); (try clear ho); (try clear hw0); (try clear gw); (try clear fin); (try clear e16); (try clear main); (try clear hw1); (try clear part); (try clear elt); grind) | grind), by have := l2.2; (first | ((try clear T); (try clear R); (try clear h1); (try clear h2); (try clear hC); (try clear hI); (try clear hf); (try clear hn); (try clear hg); (try clear hb); (try clear ho); (try clear hw0); (try clear gw); (try clear fin); (try clear e16); (try clear main); (try clear hw1); (try clear part); (try clear elt); grind) | grind)⟩]
          · rw [zup H1 j1, zup H1 j1]
            by_cases t : j = k
            · rw [if_pos t, if_pos t]; rfl
            · rw [if_neg t, if_neg t, if_neg t]
        · rw [if_neg (fun q => w ((lg_cmp_le _ _).mp q))] at ho
          have yw : 1000000000 < zMx (zAb (rlo k.toNatClampNeg)) (zAb (rhi k.toNatClampNeg)) := gt.mp (by (first | ((try clear T); (try clear R); (try clear h1); (try clear h2); (try clear hC); (try clear hI); (try clear hf); (try clear hn); (try clear hg); (try clear hb); (try clear ho); (try clear hw0); (try clear gw); (try clear fin); (try clear e16); (try clear main); (try clear hw1); (try clear part); (try clear elt); grind) | grind))
          have r1' : rwd k.toNatClampNeg = 1 := by
            rcases r3 with ⟨u1, _⟩ | ⟨_, u2⟩
            · exact u1
            · exact absurd (Or.inl yw) u2
          refine fin 1 u.1 u.2 r1'.symm elt (fun q => ?_) _ (fun j j1 => ?_) ho
          · rw [r1'] at q; exact absurd q (by decide)
          · rw [zup H1 j1, zup H1 j1]
            by_cases t : j = k
            · rw [if_pos t, if_pos t]; rfl
            · rw [if_neg t, if_neg t, if_neg t]
  · rw [if_pos (by rw [zif1]; exact c)] at h1 h2
    rw [← Option.some.inj h1, ← Option.some.inj h2]
/-! what task() keeps, what it lays -/
theorem zTN_stay {cF cc cN inp : Int32} {nF nN stp mst prc al made amt op fx jn lets : Nat → Int32} {mF mN mNF mNN mS mM mC mW mCst mO m1 m2 mX mG : Nat → Int32} {mA mB : Nat → Int64} {a1 a2 a3 a4 a5 b1 b2 b3 : Int32} {r1 r2 r3 r4 r5 r6 s1 s2 : Nat → Int32} {l1 l2 : Nat → Int64} {x : Int32 × Int32 × Int32 × Int32 × Int32 × Int32 × Int32 × Int32 × Int32 × Int32 × Int32 × Int32 × Int32 × Int32 × Int32 × Int32 × Int32 × (Nat → Int32) × (Nat → Int32) × (Nat → Int32) × (Nat → Int32) × (Nat → Int32) × (Nat → Int32) × (Nat → Int32) × (Nat → Int32) × (Nat → Int32) × (Nat → Int32) × (Nat → Int32) × (Nat → Int32) × Int32 × Int32 × Int32 × (Nat → Int32) × (Nat → Int32) × (Nat → Int32) × (Nat → Int64) × (Nat → Int64) × (Nat → Int32) × (Nat → Int32) × Int32 × Int32 × Int32 × Int32 × Int32 × (Nat → Int32)} {y : Int32 × Int32 × Int32 × Int64 × Int32 × Int32 × Int32 × Int32 × Int32 × Int32 × Int32 × Int32 × Int32 × Int32 × (Nat → Int32) × (Nat → Int32) × (Nat → Int32) × (Nat → Int32) × (Nat → Int32) × (Nat → Int32) × (Nat → Int32) × (Nat → Int32) × (Nat → Int32) × (Nat → Int32) × (Nat → Int32) × (Nat → Int32) × (Nat → Int32) × (Nat → Int32) × (Nat → Int64) × (Nat → Int64) × (Nat → Int32) × (Nat → Int32)} (T : zTN cF cc cN inp nF nN stp mst prc al made amt op fx jn lets mF mN mNF mNN mS mM mC mW mCst mO m1 m2 mX mG mA mB) (Q : zTQ a1 a2 a3 a4 a5 r1 r2 r3 r4 r5 r6 l1 l2 b1 b2 b3 s1 s2 mF mN mNF mNN mS mM mC mW mCst mO m1 m2 mX mG mA mB x y) (e : x.2.2.1 = 0) : zTN cF cc cN inp nF nN stp mst prc al made amt op fx jn lets y.2.2.2.2.2.2.2.2.2.2.2.2.2.2.1 y.2.2.2.2.2.2.2.2.2.2.2.2.2.2.2.1 y.2.2.2.2.2.2.2.2.2.2.2.2.2.2.2.2.2.1 y.2.2.2.2.2.2.2.2.2.2.2.2.2.2.2.2.2.2.1 y.2.2.2.2.2.2.2.2.2.2.2.2.2.2.2.2.2.2.2.1 y.2.2.2.2.2.2.2.2.2.2.2.2.2.2.2.2.2.2.2.2.1 y.2.2.2.2.2.2.2.2.2.2.2.2.2.2.2.2.2.2.2.2.2.1 y.2.2.2.2.2.2.2.2.2.2.2.2.2.2.2.2.2.2.2.2.2.2.1 y.2.2.2.2.2.2.2.2.2.2.2.2.2.2.2.2.1 y.2.2.2.2.2.2.2.2.2.2.2.2.2.2.2.2.2.2.2.2.2.2.2.1 y.2.2.2.2.2.2.2.2.2.2.2.2.2.2.2.2.2.2.2.2.2.2.2.2.1 y.2.2.2.2.2.2.2.2.2.2.2.2.2.2.2.2.2.2.2.2.2.2.2.2.2.1 y.2.2.2.2.2.2.2.2.2.2.2.2.2.2.2.2.2.2.2.2.2.2.2.2.2.2.1 y.2.2.2.2.2.2.2.2.2.2.2.2.2.2.2.2.2.2.2.2.2.2.2.2.2.2.2.1 y.2.2.2.2.2.2.2.2.2.2.2.2.2.2.2.2.2.2.2.2.2.2.2.2.2.2.2.2.1 y.2.2.2.2.2.2.2.2.2.2.2.2.2.2.2.2.2.2.2.2.2.2.2.2.2.2.2.2.2.1 := by
  rcases Q with q | q
  · exact zTN_fr T q.2.2.1
  · exact absurd (q.1.symm.trans e) (by decide)
theorem zTN_swap {mF mN mNF mNN mS mM mC mW mCst mO m1 m2 mX mG : Nat → Int32} {mA mB : Nat → Int64} {a1 a2 a3 a4 a5 b1 b2 b3 : Int32} {r1 r2 r3 r4 r5 r6 s1 s2 : Nat → Int32} {l1 l2 : Nat → Int64} {x : Int32 × Int32 × Int32 × Int32 × Int32 × Int32 × Int32 × Int32 × Int32 × Int32 × Int32 × Int32 × Int32 × Int32 × Int32 × Int32 × Int32 × (Nat → Int32) × (Nat → Int32) × (Nat → Int32) × (Nat → Int32) × (Nat → Int32) × (Nat → Int32) × (Nat → Int32) × (Nat → Int32) × (Nat → Int32) × (Nat → Int32) × (Nat → Int32) × (Nat → Int32) × Int32 × Int32 × Int32 × (Nat → Int32) × (Nat → Int32) × (Nat → Int32) × (Nat → Int64) × (Nat → Int64) × (Nat → Int32) × (Nat → Int32) × Int32 × Int32 × Int32 × Int32 × Int32 × (Nat → Int32)} {y : Int32 × Int32 × Int32 × Int64 × Int32 × Int32 × Int32 × Int32 × Int32 × Int32 × Int32 × Int32 × Int32 × Int32 × (Nat → Int32) × (Nat → Int32) × (Nat → Int32) × (Nat → Int32) × (Nat → Int32) × (Nat → Int32) × (Nat → Int32) × (Nat → Int32) × (Nat → Int32) × (Nat → Int32) × (Nat → Int32) × (Nat → Int32) × (Nat → Int32) × (Nat → Int32) × (Nat → Int64) × (Nat → Int64) × (Nat → Int32) × (Nat → Int32)} (Q : zTQ a1 a2 a3 a4 a5 r1 r2 r3 r4 r5 r6 l1 l2 b1 b2 b3 s1 s2 mF mN mNF mNN mS mM mC mW mCst mO m1 m2 mX mG mA mB x y) (e : x.2.2.1 = 1) : zTN x.2.2.2.2.2.2.2.1 x.2.2.2.2.2.2.2.2.1 x.2.2.2.2.2.2.2.2.2.1 x.2.2.2.2.2.2.2.2.2.2.1 x.2.2.2.2.2.2.2.2.2.2.2.2.2.2.2.2.2.1 x.2.2.2.2.2.2.2.2.2.2.2.2.2.2.2.2.2.2.1 x.2.2.2.2.2.2.2.2.2.2.2.2.2.2.2.2.2.2.2.1 x.2.2.2.2.2.2.2.2.2.2.2.2.2.2.2.2.2.2.2.2.1 x.2.2.2.2.2.2.2.2.2.2.2.2.2.2.2.2.2.2.2.2.2.1 x.2.2.2.2.2.2.2.2.2.2.2.2.2.2.2.2.2.2.2.2.2.2.1 x.2.2.2.2.2.2.2.2.2.2.2.2.2.2.2.2.2.2.2.2.2.2.2.1 x.2.2.2.2.2.2.2.2.2.2.2.2.2.2.2.2.2.2.2.2.2.2.2.2.1 x.2.2.2.2.2.2.2.2.2.2.2.2.2.2.2.2.2.2.2.2.2.2.2.2.2.1 x.2.2.2.2.2.2.2.2.2.2.2.2.2.2.2.2.2.2.2.2.2.2.2.2.2.2.1 x.2.2.2.2.2.2.2.2.2.2.2.2.2.2.2.2.2.2.2.2.2.2.2.2.2.2.2.1 x.2.2.2.2.2.2.2.2.2.2.2.2.2.2.2.2.2.2.2.2.2.2.2.2.2.2.2.2.1 y.2.2.2.2.2.2.2.2.2.2.2.2.2.2.1 y.2.2.2.2.2.2.2.2.2.2.2.2.2.2.2.1 y.2.2.2.2.2.2.2.2.2.2.2.2.2.2.2.2.2.1 y.2.2.2.2.2.2.2.2.2.2.2.2.2.2.2.2.2.2.1 y.2.2.2.2.2.2.2.2.2.2.2.2.2.2.2.2.2.2.2.1 y.2.2.2.2.2.2.2.2.2.2.2.2.2.2.2.2.2.2.2.2.1 y.2.2.2.2.2.2.2.2.2.2.2.2.2.2.2.2.2.2.2.2.2.1 y.2.2.2.2.2.2.2.2.2.2.2.2.2.2.2.2.2.2.2.2.2.2.1 y.2.2.2.2.2.2.2.2.2.2.2.2.2.2.2.2.1 y.2.2.2.2.2.2.2.2.2.2.2.2.2.2.2.2.2.2.2.2.2.2.2.1 y.2.2.2.2.2.2.2.2.2.2.2.2.2.2.2.2.2.2.2.2.2.2.2.2.1 y.2.2.2.2.2.2.2.2.2.2.2.2.2.2.2.2.2.2.2.2.2.2.2.2.2.1 y.2.2.2.2.2.2.2.2.2.2.2.2.2.2.2.2.2.2.2.2.2.2.2.2.2.2.1 y.2.2.2.2.2.2.2.2.2.2.2.2.2.2.2.2.2.2.2.2.2.2.2.2.2.2.2.1 y.2.2.2.2.2.2.2.2.2.2.2.2.2.2.2.2.2.2.2.2.2.2.2.2.2.2.2.2.1 y.2.2.2.2.2.2.2.2.2.2.2.2.2.2.2.2.2.2.2.2.2.2.2.2.2.2.2.2.2.1 := by
  rcases Q with q | q
  · exact absurd (q.1.symm.trans e) (by decide)
  · exact q.2.2.2.1
theorem zRk_c {G G' : Nat → Int32} (h : ∀ y : Nat, y < 14 → G' y = G y) {k : Nat} (hk : k ≤ 14) : zRk G' k = zRk G k := zct_c _ (fun j hj => by rw [h j (by omega)])
theorem z14 {i : Int32} (h0 : 0 ≤ i) (h1 : i < 14) : i.toNatClampNeg < 14 := by
  have := zcl' h0 h1
  rw [show (14 : Int32).toNatClampNeg = 14 by decide +kernel] at this
  exact this
theorem z14' {i : Int32} (h0 : 0 ≤ i) (h1 : i ≤ 14) : i.toNatClampNeg ≤ 14 := by
  have := zcle h0 h1
  rw [show (14 : Int32).toNatClampNeg = 14 by decide +kernel] at this
  exact this
theorem zFxS_c {mG mG' fx : Nat → Int32} {m j v : Int32} (hm : m ≤ 14) (h : ∀ y : Nat, y < 14 → mG' y = mG y) (H : zFxS mG fx m j v) : zFxS mG' fx m j v := by
  have e : ∀ o : Int32, 0 ≤ o → o < m → mG' o.toNatClampNeg = mG o.toNatClampNeg := fun o o0 o1 => h _ (z14 o0 (by (first | ((try clear h); (try clear H); (try clear e); grind) | grind)))
  rcases H with ⟨a1, a2⟩ | ⟨a1, o, p, b1, b2, b3, b4, b5, b6, b7⟩ | ⟨a1, ⟨o, b1, b2, b3, b4⟩, a2⟩
  · exact Or.inl ⟨a1, fun o o0 o1 o2 => a2 o o0 o1 (by rw [← e o o0 o1]; exact o2)⟩
  · exact Or.inr (Or.inl ⟨a1, o, p, b1, b2, b3, b4, by rw [e o b1 b2]; exact b5, by rw [e p b3 b4]; exact b6, b7⟩)
  · exact Or.inr (Or.inr ⟨a1, ⟨o, b1, b2, by rw [e o b1 b2]; exact b3, b4⟩, fun u u0 u1 u2 => a2 u u0 u1 (by rw [← e u u0 u1]; exact u2)⟩)
theorem zGp_c {cN gc gfr gcl : Int32} {fx jn gof gfx gld mG : Nat → Int32} {nG : Nat → Int32} (hN : 0 ≤ cN ∧ cN ≤ 14) (hg : zG0 cN jn mG) (h : ∀ y : Nat, y < 14 → nG y = mG y) (G : zGp cN gc gfr gcl gof gfx gld fx mG) : zGp cN gc gfr gcl gof gfx gld fx nG := by
  obtain ⟨⟨g1, g2, g3, g4, g5, g6⟩, g7⟩ := G
  have e : ∀ o : Int32, 0 ≤ o → o < cN → nG o.toNatClampNeg = mG o.toNatClampNeg := fun o o0 o1 => h _ (z14 o0 (by (first | ((try clear hg); (try clear h); (try clear G); (try clear e); grind) | grind)))
  have r : ∀ o : Int32, 0 ≤ o → o < cN → zRk nG o.toNatClampNeg = zRk mG o.toNatClampNeg := fun o o0 o1 => zRk_c h (z14' o0 (by (first | ((try clear hg); (try clear h); (try clear G); (try clear e); (try clear r); grind) | grind)))
  refine ⟨⟨?_, fun j j0 j1 => ?_, fun j j0 j1 j2 => ?_, g4, fun q j j0 j1 j2 => ?_, fun q => ?_⟩, g7⟩
  · rw [zRk_c h (z14' hN.1 hN.2)]; exact g1
  · obtain ⟨l1, l2, l3⟩ := hg.1 j j0 j1
    rw [e j j0 j1, r _ l1 (by (first | ((try clear hg); (try clear h); (try clear G); (try clear e); (try clear r); grind) | grind))]
    exact g2 j j0 j1
  · rw [e j j0 j1] at j2
    rw [r j j0 j1]
    exact ⟨(g3 j j0 j1 j2).1, zFxS_c hN.2 h (g3 j j0 j1 j2).2⟩
  · rw [e j j0 j1] at j2
    rw [r j j0 j1]
    exact g5 q j j0 j1 j2
  · obtain ⟨j, j0, j1, j2, j3⟩ := g6 q
    exact ⟨j, j0, j1, by rw [e j j0 j1]; exact j2, by rw [r j j0 j1]; exact j3⟩
theorem zGp_stay {cF cc cN inp : Int32} {nF nN stp mst prc al made amt op fx jn lets : Nat → Int32} {mF mN mNF mNN mS mM mC mW mCst mO m1 m2 mX mG : Nat → Int32} {mA mB : Nat → Int64} {gc gfr gcl : Int32} {gof gfx gld : Nat → Int32} {a1 a2 a3 a4 a5 b1 b2 b3 : Int32} {r1 r2 r3 r4 r5 r6 s1 s2 : Nat → Int32} {l1 l2 : Nat → Int64} {x : Int32 × Int32 × Int32 × Int32 × Int32 × Int32 × Int32 × Int32 × Int32 × Int32 × Int32 × Int32 × Int32 × Int32 × Int32 × Int32 × Int32 × (Nat → Int32) × (Nat → Int32) × (Nat → Int32) × (Nat → Int32) × (Nat → Int32) × (Nat → Int32) × (Nat → Int32) × (Nat → Int32) × (Nat → Int32) × (Nat → Int32) × (Nat → Int32) × (Nat → Int32) × Int32 × Int32 × Int32 × (Nat → Int32) × (Nat → Int32) × (Nat → Int32) × (Nat → Int64) × (Nat → Int64) × (Nat → Int32) × (Nat → Int32) × Int32 × Int32 × Int32 × Int32 × Int32 × (Nat → Int32)} {y : Int32 × Int32 × Int32 × Int64 × Int32 × Int32 × Int32 × Int32 × Int32 × Int32 × Int32 × Int32 × Int32 × Int32 × (Nat → Int32) × (Nat → Int32) × (Nat → Int32) × (Nat → Int32) × (Nat → Int32) × (Nat → Int32) × (Nat → Int32) × (Nat → Int32) × (Nat → Int32) × (Nat → Int32) × (Nat → Int32) × (Nat → Int32) × (Nat → Int32) × (Nat → Int32) × (Nat → Int64) × (Nat → Int64) × (Nat → Int32) × (Nat → Int32)} (G : zGp cN gc gfr gcl gof gfx gld fx mG) (T : zTN cF cc cN inp nF nN stp mst prc al made amt op fx jn lets mF mN mNF mNN mS mM mC mW mCst mO m1 m2 mX mG mA mB) (Q : zTQ a1 a2 a3 a4 a5 r1 r2 r3 r4 r5 r6 l1 l2 b1 b2 b3 s1 s2 mF mN mNF mNN mS mM mC mW mCst mO m1 m2 mX mG mA mB x y) (e : x.2.2.1 = 0) : zGp cN gc gfr gcl gof gfx gld fx y.2.2.2.2.2.2.2.2.2.2.2.2.2.2.2.2.2.2.2.2.2.2.2.2.2.2.2.1 := by
  rcases Q with q | q
  · obtain ⟨-, -, ⟨kF, kN, kNF, kNN, kS, kM, kC, kW, kCst, kO, k1', k2', kX, kG, kA, kB⟩, -⟩ := q
    exact zGp_c T.2.1.2 T.2.2.2.2.2.2.2.2 kG G
  · exact absurd (q.1.symm.trans e) (by decide)
theorem zSettle {cF cc cN inp : Int32} {nF nN stp mst prc al made amt op fx jn lets : Nat → Int32} {mF mN mNF mNN mS mM mC mW mCst mO m1 m2 mX mG : Nat → Int32} {mA mB : Nat → Int64} {gof gld gfx rwd : Nat → Int32} {rlo rhi : Nat → Int64} {gc gfr gcl : Int32} {gof' gld' gfx' rwd' : Nat → Int32} {rlo' rhi' : Nat → Int64} (T : zTN cF cc cN inp nF nN stp mst prc al made amt op fx jn lets mF mN mNF mNN mS mM mC mW mCst mO m1 m2 mX mG mA mB) (h : fn_X9_settle cN jn gof gld gfx fx op made amt rlo rhi rwd = some (gc, gfr, gcl, gof', gld', gfx', rlo', rhi', rwd')) : zGp cN gc gfr gcl gof' gfx' gld' fx mG ∧ zRN cN (-1) 0 op made amt rwd' rlo' rhi' := by
  obtain ⟨hF, ⟨n1, n2, n3⟩, hC, hz, hp, hI, hf, hn, hg⟩ := T
  unfold fn_X9_settle at h
  obtain ⟨g, hg', h⟩ := zb_s h
  obtain ⟨f, hf', h⟩ := zb_s h
  have e := Option.some.inj h
  simp only [Prod.mk.injEq] at e
  obtain ⟨rfl, rfl, rfl, rfl, rfl, rfl, rfl, rfl, rfl⟩ := e
  refine ⟨zGather ⟨n2, n3⟩ hg (fun i i0 i1 => ?_) hg', ?_⟩
  · obtain ⟨q1, q2, q3, q4, q5, q6, q7, q8, q9, q10, q11⟩ := hn i i0 i1
    exact q10.1
  · have := zFill ⟨n2, n3⟩ (fun i i0 i1 => zOk_of (hn i i0 i1)) hf'
    rw [show (0 : Int32).toInt64 = 0 by decide +kernel] at this
    exact this
theorem zGp_swap {mF mN mNF mNN mS mM mC mW mCst mO m1 m2 mX mG : Nat → Int32} {mA mB : Nat → Int64} {a1 a2 a3 a4 a5 b1 b2 b3 : Int32} {r1 r2 r3 r4 r5 r6 s1 s2 : Nat → Int32} {l1 l2 : Nat → Int64} {x : Int32 × Int32 × Int32 × Int32 × Int32 × Int32 × Int32 × Int32 × Int32 × Int32 × Int32 × Int32 × Int32 × Int32 × Int32 × Int32 × Int32 × (Nat → Int32) × (Nat → Int32) × (Nat → Int32) × (Nat → Int32) × (Nat → Int32) × (Nat → Int32) × (Nat → Int32) × (Nat → Int32) × (Nat → Int32) × (Nat → Int32) × (Nat → Int32) × (Nat → Int32) × Int32 × Int32 × Int32 × (Nat → Int32) × (Nat → Int32) × (Nat → Int32) × (Nat → Int64) × (Nat → Int64) × (Nat → Int32) × (Nat → Int32) × Int32 × Int32 × Int32 × Int32 × Int32 × (Nat → Int32)} {y : Int32 × Int32 × Int32 × Int64 × Int32 × Int32 × Int32 × Int32 × Int32 × Int32 × Int32 × Int32 × Int32 × Int32 × (Nat → Int32) × (Nat → Int32) × (Nat → Int32) × (Nat → Int32) × (Nat → Int32) × (Nat → Int32) × (Nat → Int32) × (Nat → Int32) × (Nat → Int32) × (Nat → Int32) × (Nat → Int32) × (Nat → Int32) × (Nat → Int32) × (Nat → Int32) × (Nat → Int64) × (Nat → Int64) × (Nat → Int32) × (Nat → Int32)} (Q : zTQ a1 a2 a3 a4 a5 r1 r2 r3 r4 r5 r6 l1 l2 b1 b2 b3 s1 s2 mF mN mNF mNN mS mM mC mW mCst mO m1 m2 mX mG mA mB x y) (e : x.2.2.1 = 1) : zGp x.2.2.2.2.2.2.2.2.2.1 x.2.2.2.2.2.2.2.2.2.2.2.2.2.2.2.2.2.2.2.2.2.2.2.2.2.2.2.2.2.1 x.2.2.2.2.2.2.2.2.2.2.2.2.2.2.2.2.2.2.2.2.2.2.2.2.2.2.2.2.2.2.1 x.2.2.2.2.2.2.2.2.2.2.2.2.2.2.2.2.2.2.2.2.2.2.2.2.2.2.2.2.2.2.2.1 x.2.2.2.2.2.2.2.2.2.2.2.2.2.2.2.2.2.2.2.2.2.2.2.2.2.2.2.2.2.2.2.2.1 x.2.2.2.2.2.2.2.2.2.2.2.2.2.2.2.2.2.2.2.2.2.2.2.2.2.2.2.2.2.2.2.2.2.2.1 x.2.2.2.2.2.2.2.2.2.2.2.2.2.2.2.2.2.2.2.2.2.2.2.2.2.2.2.2.2.2.2.2.2.1 x.2.2.2.2.2.2.2.2.2.2.2.2.2.2.2.2.2.2.2.2.2.2.2.2.2.2.1 y.2.2.2.2.2.2.2.2.2.2.2.2.2.2.2.2.2.2.2.2.2.2.2.2.2.2.2.1 := by
  rcases Q with q | q
  · exact absurd (q.1.symm.trans e) (by decide)
  · exact (zSettle q.2.2.2.1 q.2.2.2.2.1).1
theorem zRN_swap {mF mN mNF mNN mS mM mC mW mCst mO m1 m2 mX mG : Nat → Int32} {mA mB : Nat → Int64} {a1 a2 a3 a4 a5 b1 b2 b3 : Int32} {r1 r2 r3 r4 r5 r6 s1 s2 : Nat → Int32} {l1 l2 : Nat → Int64} {x : Int32 × Int32 × Int32 × Int32 × Int32 × Int32 × Int32 × Int32 × Int32 × Int32 × Int32 × Int32 × Int32 × Int32 × Int32 × Int32 × Int32 × (Nat → Int32) × (Nat → Int32) × (Nat → Int32) × (Nat → Int32) × (Nat → Int32) × (Nat → Int32) × (Nat → Int32) × (Nat → Int32) × (Nat → Int32) × (Nat → Int32) × (Nat → Int32) × (Nat → Int32) × Int32 × Int32 × Int32 × (Nat → Int32) × (Nat → Int32) × (Nat → Int32) × (Nat → Int64) × (Nat → Int64) × (Nat → Int32) × (Nat → Int32) × Int32 × Int32 × Int32 × Int32 × Int32 × (Nat → Int32)} {y : Int32 × Int32 × Int32 × Int64 × Int32 × Int32 × Int32 × Int32 × Int32 × Int32 × Int32 × Int32 × Int32 × Int32 × (Nat → Int32) × (Nat → Int32) × (Nat → Int32) × (Nat → Int32) × (Nat → Int32) × (Nat → Int32) × (Nat → Int32) × (Nat → Int32) × (Nat → Int32) × (Nat → Int32) × (Nat → Int32) × (Nat → Int32) × (Nat → Int32) × (Nat → Int32) × (Nat → Int64) × (Nat → Int64) × (Nat → Int32) × (Nat → Int32)} (Q : zTQ a1 a2 a3 a4 a5 r1 r2 r3 r4 r5 r6 l1 l2 b1 b2 b3 s1 s2 mF mN mNF mNN mS mM mC mW mCst mO m1 m2 mX mG mA mB x y) (e : x.2.2.1 = 1) : zRN x.2.2.2.2.2.2.2.2.2.1 (-1) 0 x.2.2.2.2.2.2.2.2.2.2.2.2.2.2.2.2.2.2.2.2.2.2.2.2.2.1 x.2.2.2.2.2.2.2.2.2.2.2.2.2.2.2.2.2.2.2.2.2.2.2.1 x.2.2.2.2.2.2.2.2.2.2.2.2.2.2.2.2.2.2.2.2.2.2.2.2.1 x.2.2.2.2.2.2.2.2.2.2.2.2.2.2.2.2.2.2.2.2.2.2.2.2.2.2.2.2.2.2.2.2.2.2.2.2.2.1 x.2.2.2.2.2.2.2.2.2.2.2.2.2.2.2.2.2.2.2.2.2.2.2.2.2.2.2.2.2.2.2.2.2.2.2.1 x.2.2.2.2.2.2.2.2.2.2.2.2.2.2.2.2.2.2.2.2.2.2.2.2.2.2.2.2.2.2.2.2.2.2.2.2.1 := by
  rcases Q with q | q
  · exact absurd (q.1.symm.trans e) (by decide)
  · exact (zSettle q.2.2.2.1 q.2.2.2.2.1).2
/-! before the first TASK -/
theorem zTN_0 {nF nN stp mst prc al made amt op fx jn lets : Nat → Int32} {mF mN mNF mNN mS mM mC mW mCst mO m1 m2 mX mG : Nat → Int32} {mA mB : Nat → Int64} (h1 : mF 0 = 0) (h2 : mN 0 = 0) (h3 : mCst 0 = 0) : zTN 0 0 0 0 nF nN stp mst prc al made amt op fx jn lets mF mN mNF mNN mS mM mC mW mCst mO m1 m2 mX mG mA mB := by
  have no : ∀ i : Int32, 0 ≤ i → ¬ i < 0 := fun i h q => by (first | ((try clear no); grind) | grind)
  exact ⟨⟨h1, by decide, by decide⟩, ⟨h2, by decide, by decide⟩, ⟨h3, by decide, by decide⟩, fun _ => rfl, fun q => absurd q (by decide), by rw [zn01.1]; rfl, fun i h q => absurd q (no i h), fun i h q => absurd q (no i h), fun i h q => absurd q (no i h), fun i j h q => absurd q (no i h)⟩
theorem zGp_0 {gof gfx gld fx mG : Nat → Int32} : zGp 0 0 0 0 gof gfx gld fx mG := ⟨zGi_0, by rw [zn01.1]; rfl⟩
theorem zRN_0 {op made amt rwd : Nat → Int32} {rlo rhi : Nat → Int64} : zRN 0 (-1) 0 op made amt rwd rlo rhi := fun i h q => absurd q (by grind)
-- ===== PART A: goes FIRST, ahead of the names: the tables' words, and 'selects' of the private methods out of them =====
/-- a private method of a class that the tables say can be made, by its rows of tables_1 -/
noncomputable def lw_okq (q : MethodName × Nat) : Prop := (q.1.cls ≠ "java/lang/invoke/MethodHandle" ∧ q.1.cls ≠ "java/lang/invoke/VarHandle") ∧ Cond.instantiable q.1.cls q.2 ∈ tables_1 ∧ Cond.privateMethod q.1 ∈ tables_1 ∧ Cond.instanceMethod q.1 ∈ tables_1
theorem lnh0 : "ShortEnough" ≠ "java/lang/invoke/MethodHandle" ∧ "ShortEnough" ≠ "java/lang/invoke/VarHandle" := by decide +kernel
theorem lnh1 : "ShortEnough$Words" ≠ "java/lang/invoke/MethodHandle" ∧ "ShortEnough$Words" ≠ "java/lang/invoke/VarHandle" := by decide +kernel
theorem lnh2 : "ShortEnough$Parser" ≠ "java/lang/invoke/MethodHandle" ∧ "ShortEnough$Parser" ≠ "java/lang/invoke/VarHandle" := by decide +kernel
theorem lnh3 : "ShortEnough$Numbers" ≠ "java/lang/invoke/MethodHandle" ∧ "ShortEnough$Numbers" ≠ "java/lang/invoke/VarHandle" := by decide +kernel
theorem lnh4 : "ShortEnough$Groups" ≠ "java/lang/invoke/MethodHandle" ∧ "ShortEnough$Groups" ≠ "java/lang/invoke/VarHandle" := by decide +kernel
theorem lnh5 : "ShortEnough$Ranges" ≠ "java/lang/invoke/MethodHandle" ∧ "ShortEnough$Ranges" ≠ "java/lang/invoke/VarHandle" := by decide +kernel
theorem lnh6 : "ShortEnough$Reckoning" ≠ "java/lang/invoke/MethodHandle" ∧ "ShortEnough$Reckoning" ≠ "java/lang/invoke/VarHandle" := by decide +kernel
theorem lnh7 : "ShortEnough$FullSearch" ≠ "java/lang/invoke/MethodHandle" ∧ "ShortEnough$FullSearch" ≠ "java/lang/invoke/VarHandle" := by decide +kernel
theorem lnh8 : "ShortEnough$LocalSearch" ≠ "java/lang/invoke/MethodHandle" ∧ "ShortEnough$LocalSearch" ≠ "java/lang/invoke/VarHandle" := by decide +kernel
theorem lnh9 : "ShortEnough$CertificateReader" ≠ "java/lang/invoke/MethodHandle" ∧ "ShortEnough$CertificateReader" ≠ "java/lang/invoke/VarHandle" := by decide +kernel
theorem lnh10 : "ShortEnoughModel" ≠ "java/lang/invoke/MethodHandle" ∧ "ShortEnoughModel" ≠ "java/lang/invoke/VarHandle" := by decide +kernel
theorem ltin1 : ∀ w ∈ tables_1_1, w ∈ tables_1 := fun _ h => List.mem_append_left _ h
theorem ltin2 : ∀ w ∈ tables_1_2, w ∈ tables_1 := fun _ h => List.mem_append_right _ (List.mem_append_left _ h)
theorem ltin3 : ∀ w ∈ tables_1_3, w ∈ tables_1 := fun _ h => List.mem_append_right _ (List.mem_append_right _ (List.mem_append_left _ h))
theorem ltin4 : ∀ w ∈ tables_1_4, w ∈ tables_1 := fun _ h => List.mem_append_right _ (List.mem_append_right _ (List.mem_append_right _ (List.mem_append_left _ h)))
theorem ltin5 : ∀ w ∈ tables_1_5, w ∈ tables_1 := fun _ h => List.mem_append_right _ (List.mem_append_right _ (List.mem_append_right _ (List.mem_append_right _ (List.mem_append_left _ h))))
theorem ltin6 : ∀ w ∈ tables_1_6, w ∈ tables_1 := fun _ h => List.mem_append_right _ (List.mem_append_right _ (List.mem_append_right _ (List.mem_append_right _ (List.mem_append_right _ (List.mem_append_left _ h)))))
theorem ltin7 : ∀ w ∈ tables_1_7, w ∈ tables_1 := fun _ h => List.mem_append_right _ (List.mem_append_right _ (List.mem_append_right _ (List.mem_append_right _ (List.mem_append_right _ (List.mem_append_right _ (List.mem_append_left _ h))))))
theorem ltin8 : ∀ w ∈ tables_1_8, w ∈ tables_1 := fun _ h => List.mem_append_right _ (List.mem_append_right _ (List.mem_append_right _ (List.mem_append_right _ (List.mem_append_right _ (List.mem_append_right _ (List.mem_append_right _ (List.mem_append_left _ h)))))))
theorem ltin9 : ∀ w ∈ tables_1_9, w ∈ tables_1 := fun _ h => List.mem_append_right _ (List.mem_append_right _ (List.mem_append_right _ (List.mem_append_right _ (List.mem_append_right _ (List.mem_append_right _ (List.mem_append_right _ (List.mem_append_right _ (h))))))))
theorem lw_p0 : lw_okq (⟨"ShortEnough", "refuse", "(I)I"⟩, 16) := ⟨lnh0, ltin1 _ (List.mem_of_getElem? (i := 20) rfl), ltin3 _ (List.mem_of_getElem? (i := 74) rfl), ltin3 _ (List.mem_of_getElem? (i := 75) rfl)⟩
theorem lw_p1 : lw_okq (⟨"ShortEnough", "putBytes", "(I)V"⟩, 16) := ⟨lnh0, ltin1 _ (List.mem_of_getElem? (i := 20) rfl), ltin3 _ (List.mem_of_getElem? (i := 78) rfl), ltin3 _ (List.mem_of_getElem? (i := 79) rfl)⟩
theorem lw_p2 : lw_okq (⟨"ShortEnough$Words", "addByte", "(BI)V"⟩, 8) := ⟨lnh1, ltin1 _ (List.mem_of_getElem? (i := 34) rfl), ltin3 _ (List.mem_of_getElem? (i := 115) rfl), ltin3 _ (List.mem_of_getElem? (i := 116) rfl)⟩
theorem lw_p3 : lw_okq (⟨"ShortEnough$Words", "findOwn", "(I)I"⟩, 8) := ⟨lnh1, ltin1 _ (List.mem_of_getElem? (i := 34) rfl), ltin3 _ (List.mem_of_getElem? (i := 119) rfl), ltin3 _ (List.mem_of_getElem? (i := 120) rfl)⟩
theorem lw_p4 : lw_okq (⟨"ShortEnough$Parser", "readStatement", "(LShortEnough$Task;I)Z"⟩, 4) := ⟨lnh2, ltin1 _ (List.mem_of_getElem? (i := 28) rfl), ltin3 _ (List.mem_of_getElem? (i := 123) rfl), ltin3 _ (List.mem_of_getElem? (i := 124) rfl)⟩
theorem lw_p5 : lw_okq (⟨"ShortEnough$Parser", "stopAt", "(II)Z"⟩, 4) := ⟨lnh2, ltin1 _ (List.mem_of_getElem? (i := 28) rfl), ltin3 _ (List.mem_of_getElem? (i := 130) rfl), ltin3 _ (List.mem_of_getElem? (i := 131) rfl)⟩
theorem lw_p6 : lw_okq (⟨"ShortEnough$Parser", "readFormat", "(LShortEnough$Task;)Z"⟩, 4) := ⟨lnh2, ltin1 _ (List.mem_of_getElem? (i := 28) rfl), ltin3 _ (List.mem_of_getElem? (i := 138) rfl), ltin3 _ (List.mem_of_getElem? (i := 139) rfl)⟩
theorem lw_p7 : lw_okq (⟨"ShortEnough$Parser", "readNewName", "(LShortEnough$Task;)Z"⟩, 4) := ⟨lnh2, ltin1 _ (List.mem_of_getElem? (i := 28) rfl), ltin3 _ (List.mem_of_getElem? (i := 142) rfl), ltin3 _ (List.mem_of_getElem? (i := 143) rfl)⟩
theorem lw_p8 : lw_okq (⟨"ShortEnough$Parser", "readOwn", "(I)Z"⟩, 4) := ⟨lnh2, ltin1 _ (List.mem_of_getElem? (i := 28) rfl), ltin3 _ (List.mem_of_getElem? (i := 158) rfl), ltin3 _ (List.mem_of_getElem? (i := 159) rfl)⟩
theorem lw_p9 : lw_okq (⟨"ShortEnough$Parser", "readValue", "(ZII)Z"⟩, 4) := ⟨lnh2, ltin1 _ (List.mem_of_getElem? (i := 28) rfl), ltin3 _ (List.mem_of_getElem? (i := 167) rfl), ltin3 _ (List.mem_of_getElem? (i := 168) rfl)⟩
theorem lw_p10 : lw_okq (⟨"ShortEnough$Parser", "readCast", "(LShortEnough$Task;)Z"⟩, 4) := ⟨lnh2, ltin1 _ (List.mem_of_getElem? (i := 28) rfl), ltin3 _ (List.mem_of_getElem? (i := 180) rfl), ltin3 _ (List.mem_of_getElem? (i := 181) rfl)⟩
theorem lw_p11 : lw_okq (⟨"ShortEnough$Parser", "readBox", "(LShortEnough$Task;)Z"⟩, 4) := ⟨lnh2, ltin1 _ (List.mem_of_getElem? (i := 28) rfl), ltin3 _ (List.mem_of_getElem? (i := 184) rfl), ltin3 _ (List.mem_of_getElem? (i := 185) rfl)⟩
theorem lw_p12 : lw_okq (⟨"ShortEnough$Numbers", "letsOf", "(I)I"⟩, 10) := ⟨lnh3, ltin1 _ (List.mem_of_getElem? (i := 141) rfl), ltin3 _ (List.mem_of_getElem? (i := 198) rfl), ltin3 _ (List.mem_of_getElem? (i := 199) rfl)⟩
theorem lw_p13 : lw_okq (⟨"ShortEnough$Parser", "readLet", "(LShortEnough$Task;)Z"⟩, 4) := ⟨lnh2, ltin1 _ (List.mem_of_getElem? (i := 28) rfl), ltin3 _ (List.mem_of_getElem? (i := 203) rfl), ltin3 _ (List.mem_of_getElem? (i := 204) rfl)⟩
theorem lw_p14 : lw_okq (⟨"ShortEnough$Parser", "readSign", "(C)Z"⟩, 4) := ⟨lnh2, ltin1 _ (List.mem_of_getElem? (i := 28) rfl), ltin3 _ (List.mem_of_getElem? (i := 207) rfl), ltin3 _ (List.mem_of_getElem? (i := 208) rfl)⟩
theorem lw_p15 : lw_okq (⟨"ShortEnough$Parser", "readWhat", "(LShortEnough$Task;I)Z"⟩, 4) := ⟨lnh2, ltin1 _ (List.mem_of_getElem? (i := 28) rfl), ltin3 _ (List.mem_of_getElem? (i := 211) rfl), ltin3 _ (List.mem_of_getElem? (i := 212) rfl)⟩
noncomputable def lw_privs_1 : List (MethodName × Nat) := [(⟨"ShortEnough", "refuse", "(I)I"⟩, 16), (⟨"ShortEnough", "putBytes", "(I)V"⟩, 16), (⟨"ShortEnough$Words", "addByte", "(BI)V"⟩, 8), (⟨"ShortEnough$Words", "findOwn", "(I)I"⟩, 8), (⟨"ShortEnough$Parser", "readStatement", "(LShortEnough$Task;I)Z"⟩, 4), (⟨"ShortEnough$Parser", "stopAt", "(II)Z"⟩, 4), (⟨"ShortEnough$Parser", "readFormat", "(LShortEnough$Task;)Z"⟩, 4), (⟨"ShortEnough$Parser", "readNewName", "(LShortEnough$Task;)Z"⟩, 4), (⟨"ShortEnough$Parser", "readOwn", "(I)Z"⟩, 4), (⟨"ShortEnough$Parser", "readValue", "(ZII)Z"⟩, 4), (⟨"ShortEnough$Parser", "readCast", "(LShortEnough$Task;)Z"⟩, 4), (⟨"ShortEnough$Parser", "readBox", "(LShortEnough$Task;)Z"⟩, 4), (⟨"ShortEnough$Numbers", "letsOf", "(I)I"⟩, 10), (⟨"ShortEnough$Parser", "readLet", "(LShortEnough$Task;)Z"⟩, 4), (⟨"ShortEnough$Parser", "readSign", "(C)Z"⟩, 4), (⟨"ShortEnough$Parser", "readWhat", "(LShortEnough$Task;I)Z"⟩, 4)]
theorem lw_r1 : ∀ q ∈ lw_privs_1, lw_okq q := List.forall_mem_cons.mpr ⟨lw_p0, List.forall_mem_cons.mpr ⟨lw_p1, List.forall_mem_cons.mpr ⟨lw_p2, List.forall_mem_cons.mpr ⟨lw_p3, List.forall_mem_cons.mpr ⟨lw_p4, List.forall_mem_cons.mpr ⟨lw_p5, List.forall_mem_cons.mpr ⟨lw_p6, List.forall_mem_cons.mpr ⟨lw_p7, List.forall_mem_cons.mpr ⟨lw_p8, List.forall_mem_cons.mpr ⟨lw_p9, List.forall_mem_cons.mpr ⟨lw_p10, List.forall_mem_cons.mpr ⟨lw_p11, List.forall_mem_cons.mpr ⟨lw_p12, List.forall_mem_cons.mpr ⟨lw_p13, List.forall_mem_cons.mpr ⟨lw_p14, List.forall_mem_cons.mpr ⟨lw_p15, fun _ h => absurd h List.not_mem_nil⟩⟩⟩⟩⟩⟩⟩⟩⟩⟩⟩⟩⟩⟩⟩⟩
theorem lw_p16 : lw_okq (⟨"ShortEnough$Parser", "readKnown", "(I)Z"⟩, 4) := ⟨lnh2, ltin1 _ (List.mem_of_getElem? (i := 28) rfl), ltin3 _ (List.mem_of_getElem? (i := 215) rfl), ltin3 _ (List.mem_of_getElem? (i := 216) rfl)⟩
theorem lw_p17 : lw_okq (⟨"ShortEnough$Parser", "readOp", "()Z"⟩, 4) := ⟨lnh2, ltin1 _ (List.mem_of_getElem? (i := 28) rfl), ltin3 _ (List.mem_of_getElem? (i := 220) rfl), ltin3 _ (List.mem_of_getElem? (i := 221) rfl)⟩
theorem lw_p18 : lw_okq (⟨"ShortEnough$Parser", "readFixed", "(LShortEnough$Task;)Z"⟩, 4) := ⟨lnh2, ltin1 _ (List.mem_of_getElem? (i := 28) rfl), ltin3 _ (List.mem_of_getElem? (i := 224) rfl), ltin3 _ (List.mem_of_getElem? (i := 225) rfl)⟩
theorem lw_p19 : lw_okq (⟨"ShortEnough$Parser", "readGroup", "(LShortEnough$Task;)Z"⟩, 4) := ⟨lnh2, ltin1 _ (List.mem_of_getElem? (i := 28) rfl), ltin3 _ (List.mem_of_getElem? (i := 232) rfl), ltin3 _ (List.mem_of_getElem? (i := 233) rfl)⟩
theorem lw_p20 : lw_okq (⟨"ShortEnough$Parser", "readAnswer", "(LShortEnough$Task;)Z"⟩, 4) := ⟨lnh2, ltin1 _ (List.mem_of_getElem? (i := 28) rfl), ltin4 _ (List.mem_of_getElem? (i := 0) rfl), ltin4 _ (List.mem_of_getElem? (i := 1) rfl)⟩
theorem lw_p21 : lw_okq (⟨"ShortEnough$Groups", "earlierGroup", "(LShortEnough$Numbers;I)I"⟩, 6) := ⟨lnh4, ltin1 _ (List.mem_of_getElem? (i := 203) rfl), ltin4 _ (List.mem_of_getElem? (i := 16) rfl), ltin4 _ (List.mem_of_getElem? (i := 17) rfl)⟩
theorem lw_p22 : lw_okq (⟨"ShortEnough$Groups", "fix", "(II)V"⟩, 6) := ⟨lnh4, ltin1 _ (List.mem_of_getElem? (i := 203) rfl), ltin4 _ (List.mem_of_getElem? (i := 20) rfl), ltin4 _ (List.mem_of_getElem? (i := 21) rfl)⟩
theorem lw_p23 : lw_okq (⟨"ShortEnough$Ranges", "lowOf", "(LShortEnough$Numbers;II)J"⟩, 3) := ⟨lnh5, ltin1 _ (List.mem_of_getElem? (i := 239) rfl), ltin4 _ (List.mem_of_getElem? (i := 32) rfl), ltin4 _ (List.mem_of_getElem? (i := 33) rfl)⟩
theorem lw_p24 : lw_okq (⟨"ShortEnough$Ranges", "highOf", "(LShortEnough$Numbers;II)J"⟩, 3) := ⟨lnh5, ltin1 _ (List.mem_of_getElem? (i := 239) rfl), ltin4 _ (List.mem_of_getElem? (i := 44) rfl), ltin4 _ (List.mem_of_getElem? (i := 45) rfl)⟩
theorem lw_p25 : lw_okq (⟨"ShortEnough$Ranges", "endProduct", "(LShortEnough$Numbers;IJZ)J"⟩, 3) := ⟨lnh5, ltin1 _ (List.mem_of_getElem? (i := 239) rfl), ltin4 _ (List.mem_of_getElem? (i := 65) rfl), ltin4 _ (List.mem_of_getElem? (i := 66) rfl)⟩
theorem lw_p26 : lw_okq (⟨"ShortEnough$Ranges", "isWide", "(I)Z"⟩, 3) := ⟨lnh5, ltin1 _ (List.mem_of_getElem? (i := 239) rfl), ltin4 _ (List.mem_of_getElem? (i := 88) rfl), ltin4 _ (List.mem_of_getElem? (i := 89) rfl)⟩
theorem lw_p27 : lw_okq (⟨"ShortEnough$Reckoning", "errorBehindCast", "(LShortEnough$Task;[III)J"⟩, 3) := ⟨lnh6, ltin2 _ (List.mem_of_getElem? (i := 73) rfl), ltin4 _ (List.mem_of_getElem? (i := 232) rfl), ltin4 _ (List.mem_of_getElem? (i := 233) rfl)⟩
theorem lw_p28 : lw_okq (⟨"ShortEnough", "handPasses", "()Z"⟩, 16) := ⟨lnh0, ltin1 _ (List.mem_of_getElem? (i := 20) rfl), ltin5 _ (List.mem_of_getElem? (i := 30) rfl), ltin5 _ (List.mem_of_getElem? (i := 31) rfl)⟩
theorem lw_p29 : lw_okq (⟨"ShortEnough", "passesLonger", "(II)Z"⟩, 16) := ⟨lnh0, ltin1 _ (List.mem_of_getElem? (i := 20) rfl), ltin5 _ (List.mem_of_getElem? (i := 43) rfl), ltin5 _ (List.mem_of_getElem? (i := 44) rfl)⟩
theorem lw_p30 : lw_okq (⟨"ShortEnough$FullSearch", "searchAll", "(LShortEnough$Task;)V"⟩, 14) := ⟨lnh7, ltin2 _ (List.mem_of_getElem? (i := 96) rfl), ltin5 _ (List.mem_of_getElem? (i := 68) rfl), ltin5 _ (List.mem_of_getElem? (i := 69) rfl)⟩
theorem lw_p31 : lw_okq (⟨"ShortEnough$FullSearch", "makeRoom", "(I)V"⟩, 14) := ⟨lnh7, ltin2 _ (List.mem_of_getElem? (i := 96) rfl), ltin5 _ (List.mem_of_getElem? (i := 73) rfl), ltin5 _ (List.mem_of_getElem? (i := 74) rfl)⟩
noncomputable def lw_privs_2 : List (MethodName × Nat) := [(⟨"ShortEnough$Parser", "readKnown", "(I)Z"⟩, 4), (⟨"ShortEnough$Parser", "readOp", "()Z"⟩, 4), (⟨"ShortEnough$Parser", "readFixed", "(LShortEnough$Task;)Z"⟩, 4), (⟨"ShortEnough$Parser", "readGroup", "(LShortEnough$Task;)Z"⟩, 4), (⟨"ShortEnough$Parser", "readAnswer", "(LShortEnough$Task;)Z"⟩, 4), (⟨"ShortEnough$Groups", "earlierGroup", "(LShortEnough$Numbers;I)I"⟩, 6), (⟨"ShortEnough$Groups", "fix", "(II)V"⟩, 6), (⟨"ShortEnough$Ranges", "lowOf", "(LShortEnough$Numbers;II)J"⟩, 3), (⟨"ShortEnough$Ranges", "highOf", "(LShortEnough$Numbers;II)J"⟩, 3), (⟨"ShortEnough$Ranges", "endProduct", "(LShortEnough$Numbers;IJZ)J"⟩, 3), (⟨"ShortEnough$Ranges", "isWide", "(I)Z"⟩, 3), (⟨"ShortEnough$Reckoning", "errorBehindCast", "(LShortEnough$Task;[III)J"⟩, 3), (⟨"ShortEnough", "handPasses", "()Z"⟩, 16), (⟨"ShortEnough", "passesLonger", "(II)Z"⟩, 16), (⟨"ShortEnough$FullSearch", "searchAll", "(LShortEnough$Task;)V"⟩, 14), (⟨"ShortEnough$FullSearch", "makeRoom", "(I)V"⟩, 14)]
theorem lw_r2 : ∀ q ∈ lw_privs_2, lw_okq q := List.forall_mem_cons.mpr ⟨lw_p16, List.forall_mem_cons.mpr ⟨lw_p17, List.forall_mem_cons.mpr ⟨lw_p18, List.forall_mem_cons.mpr ⟨lw_p19, List.forall_mem_cons.mpr ⟨lw_p20, List.forall_mem_cons.mpr ⟨lw_p21, List.forall_mem_cons.mpr ⟨lw_p22, List.forall_mem_cons.mpr ⟨lw_p23, List.forall_mem_cons.mpr ⟨lw_p24, List.forall_mem_cons.mpr ⟨lw_p25, List.forall_mem_cons.mpr ⟨lw_p26, List.forall_mem_cons.mpr ⟨lw_p27, List.forall_mem_cons.mpr ⟨lw_p28, List.forall_mem_cons.mpr ⟨lw_p29, List.forall_mem_cons.mpr ⟨lw_p30, List.forall_mem_cons.mpr ⟨lw_p31, fun _ h => absurd h List.not_mem_nil⟩⟩⟩⟩⟩⟩⟩⟩⟩⟩⟩⟩⟩⟩⟩⟩
theorem lw_p32 : lw_okq (⟨"ShortEnough$FullSearch", "keep", "(LShortEnough$Task;II)V"⟩, 14) := ⟨lnh7, ltin2 _ (List.mem_of_getElem? (i := 96) rfl), ltin5 _ (List.mem_of_getElem? (i := 82) rfl), ltin5 _ (List.mem_of_getElem? (i := 83) rfl)⟩
theorem lw_p33 : lw_okq (⟨"ShortEnough$LocalSearch", "halveWith", "(LShortEnough$Task;II)V"⟩, 16) := ⟨lnh8, ltin2 _ (List.mem_of_getElem? (i := 154) rfl), ltin5 _ (List.mem_of_getElem? (i := 105) rfl), ltin5 _ (List.mem_of_getElem? (i := 106) rfl)⟩
theorem lw_p34 : lw_okq (⟨"ShortEnough$LocalSearch", "findUnchanged", "(LShortEnough$Task;)I"⟩, 16) := ⟨lnh8, ltin2 _ (List.mem_of_getElem? (i := 154) rfl), ltin5 _ (List.mem_of_getElem? (i := 109) rfl), ltin5 _ (List.mem_of_getElem? (i := 110) rfl)⟩
theorem lw_p35 : lw_okq (⟨"ShortEnough$LocalSearch", "addPart", "(II)V"⟩, 16) := ⟨lnh8, ltin2 _ (List.mem_of_getElem? (i := 154) rfl), ltin5 _ (List.mem_of_getElem? (i := 113) rfl), ltin5 _ (List.mem_of_getElem? (i := 114) rfl)⟩
theorem lw_p36 : lw_okq (⟨"ShortEnough$LocalSearch", "changePart", "(LShortEnough$Task;IIII)Z"⟩, 16) := ⟨lnh8, ltin2 _ (List.mem_of_getElem? (i := 154) rfl), ltin5 _ (List.mem_of_getElem? (i := 117) rfl), ltin5 _ (List.mem_of_getElem? (i := 118) rfl)⟩
theorem lw_p37 : lw_okq (⟨"ShortEnough$LocalSearch", "setPart", "(III)V"⟩, 16) := ⟨lnh8, ltin2 _ (List.mem_of_getElem? (i := 154) rfl), ltin5 _ (List.mem_of_getElem? (i := 121) rfl), ltin5 _ (List.mem_of_getElem? (i := 122) rfl)⟩
theorem lw_p38 : lw_okq (⟨"ShortEnough", "takeCheapest", "()Z"⟩, 16) := ⟨lnh0, ltin1 _ (List.mem_of_getElem? (i := 20) rfl), ltin5 _ (List.mem_of_getElem? (i := 142) rfl), ltin5 _ (List.mem_of_getElem? (i := 143) rfl)⟩
theorem lw_p39 : lw_okq (⟨"ShortEnough", "takeSingle", "()Z"⟩, 16) := ⟨lnh0, ltin1 _ (List.mem_of_getElem? (i := 20) rfl), ltin5 _ (List.mem_of_getElem? (i := 146) rfl), ltin5 _ (List.mem_of_getElem? (i := 147) rfl)⟩
theorem lw_p40 : lw_okq (⟨"ShortEnough$FullSearch", "cheapestBelow", "(II)I"⟩, 14) := ⟨lnh7, ltin2 _ (List.mem_of_getElem? (i := 96) rfl), ltin5 _ (List.mem_of_getElem? (i := 160) rfl), ltin5 _ (List.mem_of_getElem? (i := 161) rfl)⟩
theorem lw_p41 : lw_okq (⟨"ShortEnough$FullSearch", "errorAt", "(II)I"⟩, 14) := ⟨lnh7, ltin2 _ (List.mem_of_getElem? (i := 96) rfl), ltin5 _ (List.mem_of_getElem? (i := 164) rfl), ltin5 _ (List.mem_of_getElem? (i := 165) rfl)⟩
theorem lw_p42 : lw_okq (⟨"ShortEnough$FullSearch", "countAlike", "(III)I"⟩, 14) := ⟨lnh7, ltin2 _ (List.mem_of_getElem? (i := 96) rfl), ltin5 _ (List.mem_of_getElem? (i := 168) rfl), ltin5 _ (List.mem_of_getElem? (i := 169) rfl)⟩
theorem lw_p43 : lw_okq (⟨"ShortEnough$CertificateReader", "whyNot", "(LShortEnough$Task;II[B)I"⟩, 5) := ⟨lnh9, ltin2 _ (List.mem_of_getElem? (i := 218) rfl), ltin5 _ (List.mem_of_getElem? (i := 199) rfl), ltin5 _ (List.mem_of_getElem? (i := 200) rfl)⟩
theorem lw_p44 : lw_okq (⟨"ShortEnoughModel", "refuses", "(I)I"⟩, 67) := ⟨lnh10, ltin6 _ (List.mem_of_getElem? (i := 14) rfl), ltin6 _ (List.mem_of_getElem? (i := 226) rfl), ltin6 _ (List.mem_of_getElem? (i := 227) rfl)⟩
theorem lw_p45 : lw_okq (⟨"ShortEnoughModel", "lays", "(I)V"⟩, 67) := ⟨lnh10, ltin6 _ (List.mem_of_getElem? (i := 14) rfl), ltin6 _ (List.mem_of_getElem? (i := 230) rfl), ltin6 _ (List.mem_of_getElem? (i := 231) rfl)⟩
theorem lw_p46 : lw_okq (⟨"ShortEnoughModel", "isRefused", "(I)Z"⟩, 67) := ⟨lnh10, ltin6 _ (List.mem_of_getElem? (i := 14) rfl), ltin6 _ (List.mem_of_getElem? (i := 238) rfl), ltin6 _ (List.mem_of_getElem? (i := 239) rfl)⟩
theorem lw_p47 : lw_okq (⟨"ShortEnoughModel", "goesWell", "()Z"⟩, 67) := ⟨lnh10, ltin6 _ (List.mem_of_getElem? (i := 14) rfl), ltin7 _ (List.mem_of_getElem? (i := 6) rfl), ltin7 _ (List.mem_of_getElem? (i := 7) rfl)⟩
noncomputable def lw_privs_3 : List (MethodName × Nat) := [(⟨"ShortEnough$FullSearch", "keep", "(LShortEnough$Task;II)V"⟩, 14), (⟨"ShortEnough$LocalSearch", "halveWith", "(LShortEnough$Task;II)V"⟩, 16), (⟨"ShortEnough$LocalSearch", "findUnchanged", "(LShortEnough$Task;)I"⟩, 16), (⟨"ShortEnough$LocalSearch", "addPart", "(II)V"⟩, 16), (⟨"ShortEnough$LocalSearch", "changePart", "(LShortEnough$Task;IIII)Z"⟩, 16), (⟨"ShortEnough$LocalSearch", "setPart", "(III)V"⟩, 16), (⟨"ShortEnough", "takeCheapest", "()Z"⟩, 16), (⟨"ShortEnough", "takeSingle", "()Z"⟩, 16), (⟨"ShortEnough$FullSearch", "cheapestBelow", "(II)I"⟩, 14), (⟨"ShortEnough$FullSearch", "errorAt", "(II)I"⟩, 14), (⟨"ShortEnough$FullSearch", "countAlike", "(III)I"⟩, 14), (⟨"ShortEnough$CertificateReader", "whyNot", "(LShortEnough$Task;II[B)I"⟩, 5), (⟨"ShortEnoughModel", "refuses", "(I)I"⟩, 67), (⟨"ShortEnoughModel", "lays", "(I)V"⟩, 67), (⟨"ShortEnoughModel", "isRefused", "(I)Z"⟩, 67), (⟨"ShortEnoughModel", "goesWell", "()Z"⟩, 67)]
theorem lw_r3 : ∀ q ∈ lw_privs_3, lw_okq q := List.forall_mem_cons.mpr ⟨lw_p32, List.forall_mem_cons.mpr ⟨lw_p33, List.forall_mem_cons.mpr ⟨lw_p34, List.forall_mem_cons.mpr ⟨lw_p35, List.forall_mem_cons.mpr ⟨lw_p36, List.forall_mem_cons.mpr ⟨lw_p37, List.forall_mem_cons.mpr ⟨lw_p38, List.forall_mem_cons.mpr ⟨lw_p39, List.forall_mem_cons.mpr ⟨lw_p40, List.forall_mem_cons.mpr ⟨lw_p41, List.forall_mem_cons.mpr ⟨lw_p42, List.forall_mem_cons.mpr ⟨lw_p43, List.forall_mem_cons.mpr ⟨lw_p44, List.forall_mem_cons.mpr ⟨lw_p45, List.forall_mem_cons.mpr ⟨lw_p46, List.forall_mem_cons.mpr ⟨lw_p47, fun _ h => absurd h List.not_mem_nil⟩⟩⟩⟩⟩⟩⟩⟩⟩⟩⟩⟩⟩⟩⟩⟩
theorem lw_p48 : lw_okq (⟨"ShortEnoughModel", "here", "()I"⟩, 67) := ⟨lnh10, ltin6 _ (List.mem_of_getElem? (i := 14) rfl), ltin7 _ (List.mem_of_getElem? (i := 10) rfl), ltin7 _ (List.mem_of_getElem? (i := 11) rfl)⟩
theorem lw_p49 : lw_okq (⟨"ShortEnoughModel", "byteAt", "(I)I"⟩, 67) := ⟨lnh10, ltin6 _ (List.mem_of_getElem? (i := 14) rfl), ltin7 _ (List.mem_of_getElem? (i := 14) rfl), ltin7 _ (List.mem_of_getElem? (i := 15) rfl)⟩
theorem lw_p50 : lw_okq (⟨"ShortEnoughModel", "readsStatement", "(I)V"⟩, 67) := ⟨lnh10, ltin6 _ (List.mem_of_getElem? (i := 14) rfl), ltin7 _ (List.mem_of_getElem? (i := 18) rfl), ltin7 _ (List.mem_of_getElem? (i := 19) rfl)⟩
theorem lw_p51 : lw_okq (⟨"ShortEnoughModel", "word", "()V"⟩, 67) := ⟨lnh10, ltin6 _ (List.mem_of_getElem? (i := 14) rfl), ltin7 _ (List.mem_of_getElem? (i := 22) rfl), ltin7 _ (List.mem_of_getElem? (i := 23) rfl)⟩
theorem lw_p52 : lw_okq (⟨"ShortEnoughModel", "isSmall", "(I)Z"⟩, 67) := ⟨lnh10, ltin6 _ (List.mem_of_getElem? (i := 14) rfl), ltin7 _ (List.mem_of_getElem? (i := 26) rfl), ltin7 _ (List.mem_of_getElem? (i := 27) rfl)⟩
theorem lw_p53 : lw_okq (⟨"ShortEnoughModel", "isDigit", "(I)Z"⟩, 67) := ⟨lnh10, ltin6 _ (List.mem_of_getElem? (i := 14) rfl), ltin7 _ (List.mem_of_getElem? (i := 30) rfl), ltin7 _ (List.mem_of_getElem? (i := 31) rfl)⟩
theorem lw_p54 : lw_okq (⟨"ShortEnoughModel", "faults", "(II)V"⟩, 67) := ⟨lnh10, ltin6 _ (List.mem_of_getElem? (i := 14) rfl), ltin7 _ (List.mem_of_getElem? (i := 34) rfl), ltin7 _ (List.mem_of_getElem? (i := 35) rfl)⟩
theorem lw_p55 : lw_okq (⟨"ShortEnoughModel", "own", "()I"⟩, 67) := ⟨lnh10, ltin6 _ (List.mem_of_getElem? (i := 14) rfl), ltin7 _ (List.mem_of_getElem? (i := 38) rfl), ltin7 _ (List.mem_of_getElem? (i := 39) rfl)⟩
theorem lw_p56 : lw_okq (⟨"ShortEnoughModel", "readsFormat", "()V"⟩, 67) := ⟨lnh10, ltin6 _ (List.mem_of_getElem? (i := 14) rfl), ltin7 _ (List.mem_of_getElem? (i := 45) rfl), ltin7 _ (List.mem_of_getElem? (i := 46) rfl)⟩
theorem lw_p57 : lw_okq (⟨"ShortEnoughModel", "newName", "()I"⟩, 67) := ⟨lnh10, ltin6 _ (List.mem_of_getElem? (i := 14) rfl), ltin7 _ (List.mem_of_getElem? (i := 49) rfl), ltin7 _ (List.mem_of_getElem? (i := 50) rfl)⟩
theorem lw_p58 : lw_okq (⟨"ShortEnoughModel", "name", "()I"⟩, 67) := ⟨lnh10, ltin6 _ (List.mem_of_getElem? (i := 14) rfl), ltin7 _ (List.mem_of_getElem? (i := 53) rfl), ltin7 _ (List.mem_of_getElem? (i := 54) rfl)⟩
theorem lw_p59 : lw_okq (⟨"ShortEnoughModel", "formatNamed", "(I)I"⟩, 67) := ⟨lnh10, ltin6 _ (List.mem_of_getElem? (i := 14) rfl), ltin7 _ (List.mem_of_getElem? (i := 57) rfl), ltin7 _ (List.mem_of_getElem? (i := 58) rfl)⟩
theorem lw_p60 : lw_okq (⟨"ShortEnoughModel", "f", "(I)I"⟩, 67) := ⟨lnh10, ltin6 _ (List.mem_of_getElem? (i := 14) rfl), ltin7 _ (List.mem_of_getElem? (i := 61) rfl), ltin7 _ (List.mem_of_getElem? (i := 62) rfl)⟩
theorem lw_p61 : lw_okq (⟨"ShortEnoughModel", "numberNamed", "(I)I"⟩, 67) := ⟨lnh10, ltin6 _ (List.mem_of_getElem? (i := 14) rfl), ltin7 _ (List.mem_of_getElem? (i := 65) rfl), ltin7 _ (List.mem_of_getElem? (i := 66) rfl)⟩
theorem lw_p62 : lw_okq (⟨"ShortEnoughModel", "n", "(I)I"⟩, 67) := ⟨lnh10, ltin6 _ (List.mem_of_getElem? (i := 14) rfl), ltin7 _ (List.mem_of_getElem? (i := 69) rfl), ltin7 _ (List.mem_of_getElem? (i := 70) rfl)⟩
theorem lw_p63 : lw_okq (⟨"ShortEnoughModel", "must", "(I)V"⟩, 67) := ⟨lnh10, ltin6 _ (List.mem_of_getElem? (i := 14) rfl), ltin7 _ (List.mem_of_getElem? (i := 73) rfl), ltin7 _ (List.mem_of_getElem? (i := 74) rfl)⟩
noncomputable def lw_privs_4 : List (MethodName × Nat) := [(⟨"ShortEnoughModel", "here", "()I"⟩, 67), (⟨"ShortEnoughModel", "byteAt", "(I)I"⟩, 67), (⟨"ShortEnoughModel", "readsStatement", "(I)V"⟩, 67), (⟨"ShortEnoughModel", "word", "()V"⟩, 67), (⟨"ShortEnoughModel", "isSmall", "(I)Z"⟩, 67), (⟨"ShortEnoughModel", "isDigit", "(I)Z"⟩, 67), (⟨"ShortEnoughModel", "faults", "(II)V"⟩, 67), (⟨"ShortEnoughModel", "own", "()I"⟩, 67), (⟨"ShortEnoughModel", "readsFormat", "()V"⟩, 67), (⟨"ShortEnoughModel", "newName", "()I"⟩, 67), (⟨"ShortEnoughModel", "name", "()I"⟩, 67), (⟨"ShortEnoughModel", "formatNamed", "(I)I"⟩, 67), (⟨"ShortEnoughModel", "f", "(I)I"⟩, 67), (⟨"ShortEnoughModel", "numberNamed", "(I)I"⟩, 67), (⟨"ShortEnoughModel", "n", "(I)I"⟩, 67), (⟨"ShortEnoughModel", "must", "(I)V"⟩, 67)]
theorem lw_r4 : ∀ q ∈ lw_privs_4, lw_okq q := List.forall_mem_cons.mpr ⟨lw_p48, List.forall_mem_cons.mpr ⟨lw_p49, List.forall_mem_cons.mpr ⟨lw_p50, List.forall_mem_cons.mpr ⟨lw_p51, List.forall_mem_cons.mpr ⟨lw_p52, List.forall_mem_cons.mpr ⟨lw_p53, List.forall_mem_cons.mpr ⟨lw_p54, List.forall_mem_cons.mpr ⟨lw_p55, List.forall_mem_cons.mpr ⟨lw_p56, List.forall_mem_cons.mpr ⟨lw_p57, List.forall_mem_cons.mpr ⟨lw_p58, List.forall_mem_cons.mpr ⟨lw_p59, List.forall_mem_cons.mpr ⟨lw_p60, List.forall_mem_cons.mpr ⟨lw_p61, List.forall_mem_cons.mpr ⟨lw_p62, List.forall_mem_cons.mpr ⟨lw_p63, fun _ h => absurd h List.not_mem_nil⟩⟩⟩⟩⟩⟩⟩⟩⟩⟩⟩⟩⟩⟩⟩⟩
theorem lw_p64 : lw_okq (⟨"ShortEnoughModel", "number", "(JJ)J"⟩, 67) := ⟨lnh10, ltin6 _ (List.mem_of_getElem? (i := 14) rfl), ltin7 _ (List.mem_of_getElem? (i := 78) rfl), ltin7 _ (List.mem_of_getElem? (i := 79) rfl)⟩
theorem lw_p65 : lw_okq (⟨"ShortEnoughModel", "digits", "()J"⟩, 67) := ⟨lnh10, ltin6 _ (List.mem_of_getElem? (i := 14) rfl), ltin7 _ (List.mem_of_getElem? (i := 82) rfl), ltin7 _ (List.mem_of_getElem? (i := 83) rfl)⟩
theorem lw_p66 : lw_okq (⟨"ShortEnoughModel", "readsInput", "()V"⟩, 67) := ⟨lnh10, ltin6 _ (List.mem_of_getElem? (i := 14) rfl), ltin7 _ (List.mem_of_getElem? (i := 93) rfl), ltin7 _ (List.mem_of_getElem? (i := 94) rfl)⟩
theorem lw_p67 : lw_okq (⟨"ShortEnoughModel", "signed", "(JJ)J"⟩, 67) := ⟨lnh10, ltin6 _ (List.mem_of_getElem? (i := 14) rfl), ltin7 _ (List.mem_of_getElem? (i := 99) rfl), ltin7 _ (List.mem_of_getElem? (i := 100) rfl)⟩
theorem lw_p68 : lw_okq (⟨"ShortEnoughModel", "newNumber", "(II)V"⟩, 67) := ⟨lnh10, ltin6 _ (List.mem_of_getElem? (i := 14) rfl), ltin7 _ (List.mem_of_getElem? (i := 103) rfl), ltin7 _ (List.mem_of_getElem? (i := 104) rfl)⟩
theorem lw_p69 : lw_okq (⟨"ShortEnoughModel", "readsLet", "()V"⟩, 67) := ⟨lnh10, ltin6 _ (List.mem_of_getElem? (i := 14) rfl), ltin7 _ (List.mem_of_getElem? (i := 107) rfl), ltin7 _ (List.mem_of_getElem? (i := 108) rfl)⟩
theorem lw_p70 : lw_okq (⟨"ShortEnoughModel", "mark", "(I)V"⟩, 67) := ⟨lnh10, ltin6 _ (List.mem_of_getElem? (i := 14) rfl), ltin7 _ (List.mem_of_getElem? (i := 111) rfl), ltin7 _ (List.mem_of_getElem? (i := 112) rfl)⟩
theorem lw_p71 : lw_okq (⟨"ShortEnoughModel", "readsWhat", "()I"⟩, 67) := ⟨lnh10, ltin6 _ (List.mem_of_getElem? (i := 14) rfl), ltin7 _ (List.mem_of_getElem? (i := 115) rfl), ltin7 _ (List.mem_of_getElem? (i := 116) rfl)⟩
theorem lw_p72 : lw_okq (⟨"ShortEnoughModel", "toldNumber", "()I"⟩, 67) := ⟨lnh10, ltin6 _ (List.mem_of_getElem? (i := 14) rfl), ltin7 _ (List.mem_of_getElem? (i := 120) rfl), ltin7 _ (List.mem_of_getElem? (i := 121) rfl)⟩
theorem lw_p73 : lw_okq (⟨"ShortEnoughModel", "readsOp", "()I"⟩, 67) := ⟨lnh10, ltin6 _ (List.mem_of_getElem? (i := 14) rfl), ltin7 _ (List.mem_of_getElem? (i := 124) rfl), ltin7 _ (List.mem_of_getElem? (i := 125) rfl)⟩
theorem lw_p74 : lw_okq (⟨"ShortEnoughModel", "readsFixed", "()V"⟩, 67) := ⟨lnh10, ltin6 _ (List.mem_of_getElem? (i := 14) rfl), ltin7 _ (List.mem_of_getElem? (i := 128) rfl), ltin7 _ (List.mem_of_getElem? (i := 129) rfl)⟩
theorem lw_p75 : lw_okq (⟨"ShortEnoughModel", "readsGroup", "()V"⟩, 67) := ⟨lnh10, ltin6 _ (List.mem_of_getElem? (i := 14) rfl), ltin7 _ (List.mem_of_getElem? (i := 132) rfl), ltin7 _ (List.mem_of_getElem? (i := 133) rfl)⟩
theorem lw_p76 : lw_okq (⟨"ShortEnoughModel", "readsAnswer", "()V"⟩, 67) := ⟨lnh10, ltin6 _ (List.mem_of_getElem? (i := 14) rfl), ltin7 _ (List.mem_of_getElem? (i := 139) rfl), ltin7 _ (List.mem_of_getElem? (i := 140) rfl)⟩
theorem lw_p77 : lw_okq (⟨"ShortEnoughModel", "copiesTask", "()V"⟩, 67) := ⟨lnh10, ltin6 _ (List.mem_of_getElem? (i := 14) rfl), ltin7 _ (List.mem_of_getElem? (i := 143) rfl), ltin7 _ (List.mem_of_getElem? (i := 144) rfl)⟩
theorem lw_p78 : lw_okq (⟨"ShortEnoughModel", "beginsChoice", "()V"⟩, 67) := ⟨lnh10, ltin6 _ (List.mem_of_getElem? (i := 14) rfl), ltin7 _ (List.mem_of_getElem? (i := 147) rfl), ltin7 _ (List.mem_of_getElem? (i := 148) rfl)⟩
theorem lw_p79 : lw_okq (⟨"ShortEnoughModel", "laysFree", "()V"⟩, 67) := ⟨lnh10, ltin6 _ (List.mem_of_getElem? (i := 14) rfl), ltin7 _ (List.mem_of_getElem? (i := 159) rfl), ltin7 _ (List.mem_of_getElem? (i := 160) rfl)⟩
noncomputable def lw_privs_5 : List (MethodName × Nat) := [(⟨"ShortEnoughModel", "number", "(JJ)J"⟩, 67), (⟨"ShortEnoughModel", "digits", "()J"⟩, 67), (⟨"ShortEnoughModel", "readsInput", "()V"⟩, 67), (⟨"ShortEnoughModel", "signed", "(JJ)J"⟩, 67), (⟨"ShortEnoughModel", "newNumber", "(II)V"⟩, 67), (⟨"ShortEnoughModel", "readsLet", "()V"⟩, 67), (⟨"ShortEnoughModel", "mark", "(I)V"⟩, 67), (⟨"ShortEnoughModel", "readsWhat", "()I"⟩, 67), (⟨"ShortEnoughModel", "toldNumber", "()I"⟩, 67), (⟨"ShortEnoughModel", "readsOp", "()I"⟩, 67), (⟨"ShortEnoughModel", "readsFixed", "()V"⟩, 67), (⟨"ShortEnoughModel", "readsGroup", "()V"⟩, 67), (⟨"ShortEnoughModel", "readsAnswer", "()V"⟩, 67), (⟨"ShortEnoughModel", "copiesTask", "()V"⟩, 67), (⟨"ShortEnoughModel", "beginsChoice", "()V"⟩, 67), (⟨"ShortEnoughModel", "laysFree", "()V"⟩, 67)]
theorem lw_r5 : ∀ q ∈ lw_privs_5, lw_okq q := List.forall_mem_cons.mpr ⟨lw_p64, List.forall_mem_cons.mpr ⟨lw_p65, List.forall_mem_cons.mpr ⟨lw_p66, List.forall_mem_cons.mpr ⟨lw_p67, List.forall_mem_cons.mpr ⟨lw_p68, List.forall_mem_cons.mpr ⟨lw_p69, List.forall_mem_cons.mpr ⟨lw_p70, List.forall_mem_cons.mpr ⟨lw_p71, List.forall_mem_cons.mpr ⟨lw_p72, List.forall_mem_cons.mpr ⟨lw_p73, List.forall_mem_cons.mpr ⟨lw_p74, List.forall_mem_cons.mpr ⟨lw_p75, List.forall_mem_cons.mpr ⟨lw_p76, List.forall_mem_cons.mpr ⟨lw_p77, List.forall_mem_cons.mpr ⟨lw_p78, List.forall_mem_cons.mpr ⟨lw_p79, fun _ h => absurd h List.not_mem_nil⟩⟩⟩⟩⟩⟩⟩⟩⟩⟩⟩⟩⟩⟩⟩⟩
theorem lw_p80 : lw_okq (⟨"ShortEnoughModel", "isFree", "(I)Z"⟩, 67) := ⟨lnh10, ltin6 _ (List.mem_of_getElem? (i := 14) rfl), ltin7 _ (List.mem_of_getElem? (i := 163) rfl), ltin7 _ (List.mem_of_getElem? (i := 164) rfl)⟩
theorem lw_p81 : lw_okq (⟨"ShortEnoughModel", "inputs", "()I"⟩, 67) := ⟨lnh10, ltin6 _ (List.mem_of_getElem? (i := 14) rfl), ltin7 _ (List.mem_of_getElem? (i := 167) rfl), ltin7 _ (List.mem_of_getElem? (i := 168) rfl)⟩
theorem lw_p82 : lw_okq (⟨"ShortEnoughModel", "answers", "()I"⟩, 67) := ⟨lnh10, ltin6 _ (List.mem_of_getElem? (i := 14) rfl), ltin7 _ (List.mem_of_getElem? (i := 171) rfl), ltin7 _ (List.mem_of_getElem? (i := 172) rfl)⟩
theorem lw_p83 : lw_okq (⟨"ShortEnoughModel", "groups", "()I"⟩, 67) := ⟨lnh10, ltin6 _ (List.mem_of_getElem? (i := 14) rfl), ltin7 _ (List.mem_of_getElem? (i := 175) rfl), ltin7 _ (List.mem_of_getElem? (i := 176) rfl)⟩
theorem lw_p84 : lw_okq (⟨"ShortEnoughModel", "isFormat", "(I)Z"⟩, 67) := ⟨lnh10, ltin6 _ (List.mem_of_getElem? (i := 14) rfl), ltin7 _ (List.mem_of_getElem? (i := 183) rfl), ltin7 _ (List.mem_of_getElem? (i := 184) rfl)⟩
theorem lw_p85 : lw_okq (⟨"ShortEnoughModel", "isNumber", "(I)Z"⟩, 67) := ⟨lnh10, ltin6 _ (List.mem_of_getElem? (i := 14) rfl), ltin7 _ (List.mem_of_getElem? (i := 187) rfl), ltin7 _ (List.mem_of_getElem? (i := 188) rfl)⟩
theorem lw_p86 : lw_okq (⟨"ShortEnoughModel", "groupPlace", "(I)I"⟩, 67) := ⟨lnh10, ltin6 _ (List.mem_of_getElem? (i := 14) rfl), ltin7 _ (List.mem_of_getElem? (i := 200) rfl), ltin7 _ (List.mem_of_getElem? (i := 201) rfl)⟩
theorem lw_p87 : lw_okq (⟨"ShortEnoughModel", "isGreatPart", "(I)Z"⟩, 67) := ⟨lnh10, ltin6 _ (List.mem_of_getElem? (i := 14) rfl), ltin7 _ (List.mem_of_getElem? (i := 213) rfl), ltin7 _ (List.mem_of_getElem? (i := 214) rfl)⟩
theorem lw_p88 : lw_okq (⟨"ShortEnoughModel", "laysRange", "(I)V"⟩, 67) := ⟨lnh10, ltin6 _ (List.mem_of_getElem? (i := 14) rfl), ltin7 _ (List.mem_of_getElem? (i := 217) rfl), ltin7 _ (List.mem_of_getElem? (i := 218) rfl)⟩
theorem lw_p89 : lw_okq (⟨"ShortEnoughModel", "lowOf", "(IZ)J"⟩, 67) := ⟨lnh10, ltin6 _ (List.mem_of_getElem? (i := 14) rfl), ltin7 _ (List.mem_of_getElem? (i := 221) rfl), ltin7 _ (List.mem_of_getElem? (i := 222) rfl)⟩
theorem lw_p90 : lw_okq (⟨"ShortEnoughModel", "highOf", "(IZ)J"⟩, 67) := ⟨lnh10, ltin6 _ (List.mem_of_getElem? (i := 14) rfl), ltin7 _ (List.mem_of_getElem? (i := 225) rfl), ltin7 _ (List.mem_of_getElem? (i := 226) rfl)⟩
theorem lw_p91 : lw_okq (⟨"ShortEnoughModel", "mostOf", "(I)J"⟩, 67) := ⟨lnh10, ltin6 _ (List.mem_of_getElem? (i := 14) rfl), ltin8 _ (List.mem_of_getElem? (i := 4) rfl), ltin8 _ (List.mem_of_getElem? (i := 5) rfl)⟩
theorem lw_p92 : lw_okq (⟨"ShortEnoughModel", "deepOf", "(I)I"⟩, 67) := ⟨lnh10, ltin6 _ (List.mem_of_getElem? (i := 14) rfl), ltin8 _ (List.mem_of_getElem? (i := 19) rfl), ltin8 _ (List.mem_of_getElem? (i := 20) rfl)⟩
theorem lw_p93 : lw_okq (⟨"ShortEnoughModel", "isThere", "()Z"⟩, 67) := ⟨lnh10, ltin6 _ (List.mem_of_getElem? (i := 14) rfl), ltin8 _ (List.mem_of_getElem? (i := 35) rfl), ltin8 _ (List.mem_of_getElem? (i := 36) rfl)⟩
theorem lw_p94 : lw_okq (⟨"ShortEnoughModel", "triesHand", "()V"⟩, 67) := ⟨lnh10, ltin6 _ (List.mem_of_getElem? (i := 14) rfl), ltin8 _ (List.mem_of_getElem? (i := 39) rfl), ltin8 _ (List.mem_of_getElem? (i := 40) rfl)⟩
theorem lw_p95 : lw_okq (⟨"ShortEnoughModel", "costTried", "()I"⟩, 67) := ⟨lnh10, ltin6 _ (List.mem_of_getElem? (i := 14) rfl), ltin8 _ (List.mem_of_getElem? (i := 43) rfl), ltin8 _ (List.mem_of_getElem? (i := 44) rfl)⟩
noncomputable def lw_privs_6 : List (MethodName × Nat) := [(⟨"ShortEnoughModel", "isFree", "(I)Z"⟩, 67), (⟨"ShortEnoughModel", "inputs", "()I"⟩, 67), (⟨"ShortEnoughModel", "answers", "()I"⟩, 67), (⟨"ShortEnoughModel", "groups", "()I"⟩, 67), (⟨"ShortEnoughModel", "isFormat", "(I)Z"⟩, 67), (⟨"ShortEnoughModel", "isNumber", "(I)Z"⟩, 67), (⟨"ShortEnoughModel", "groupPlace", "(I)I"⟩, 67), (⟨"ShortEnoughModel", "isGreatPart", "(I)Z"⟩, 67), (⟨"ShortEnoughModel", "laysRange", "(I)V"⟩, 67), (⟨"ShortEnoughModel", "lowOf", "(IZ)J"⟩, 67), (⟨"ShortEnoughModel", "highOf", "(IZ)J"⟩, 67), (⟨"ShortEnoughModel", "mostOf", "(I)J"⟩, 67), (⟨"ShortEnoughModel", "deepOf", "(I)I"⟩, 67), (⟨"ShortEnoughModel", "isThere", "()Z"⟩, 67), (⟨"ShortEnoughModel", "triesHand", "()V"⟩, 67), (⟨"ShortEnoughModel", "costTried", "()I"⟩, 67)]
theorem lw_r6 : ∀ q ∈ lw_privs_6, lw_okq q := List.forall_mem_cons.mpr ⟨lw_p80, List.forall_mem_cons.mpr ⟨lw_p81, List.forall_mem_cons.mpr ⟨lw_p82, List.forall_mem_cons.mpr ⟨lw_p83, List.forall_mem_cons.mpr ⟨lw_p84, List.forall_mem_cons.mpr ⟨lw_p85, List.forall_mem_cons.mpr ⟨lw_p86, List.forall_mem_cons.mpr ⟨lw_p87, List.forall_mem_cons.mpr ⟨lw_p88, List.forall_mem_cons.mpr ⟨lw_p89, List.forall_mem_cons.mpr ⟨lw_p90, List.forall_mem_cons.mpr ⟨lw_p91, List.forall_mem_cons.mpr ⟨lw_p92, List.forall_mem_cons.mpr ⟨lw_p93, List.forall_mem_cons.mpr ⟨lw_p94, List.forall_mem_cons.mpr ⟨lw_p95, fun _ h => absurd h List.not_mem_nil⟩⟩⟩⟩⟩⟩⟩⟩⟩⟩⟩⟩⟩⟩⟩⟩
theorem lw_p96 : lw_okq (⟨"ShortEnoughModel", "castsTried", "()I"⟩, 67) := ⟨lnh10, ltin6 _ (List.mem_of_getElem? (i := 14) rfl), ltin8 _ (List.mem_of_getElem? (i := 47) rfl), ltin8 _ (List.mem_of_getElem? (i := 48) rfl)⟩
theorem lw_p97 : lw_okq (⟨"ShortEnoughModel", "isCast", "(II)Z"⟩, 67) := ⟨lnh10, ltin6 _ (List.mem_of_getElem? (i := 14) rfl), ltin8 _ (List.mem_of_getElem? (i := 51) rfl), ltin8 _ (List.mem_of_getElem? (i := 52) rfl)⟩
theorem lw_p98 : lw_okq (⟨"ShortEnoughModel", "handPasses", "()Z"⟩, 67) := ⟨lnh10, ltin6 _ (List.mem_of_getElem? (i := 14) rfl), ltin8 _ (List.mem_of_getElem? (i := 63) rfl), ltin8 _ (List.mem_of_getElem? (i := 64) rfl)⟩
theorem lw_p99 : lw_okq (⟨"ShortEnoughModel", "passes", "()Z"⟩, 67) := ⟨lnh10, ltin6 _ (List.mem_of_getElem? (i := 14) rfl), ltin8 _ (List.mem_of_getElem? (i := 67) rfl), ltin8 _ (List.mem_of_getElem? (i := 68) rfl)⟩
theorem lw_p100 : lw_okq (⟨"ShortEnoughModel", "laysError", "(I)V"⟩, 67) := ⟨lnh10, ltin6 _ (List.mem_of_getElem? (i := 14) rfl), ltin8 _ (List.mem_of_getElem? (i := 71) rfl), ltin8 _ (List.mem_of_getElem? (i := 72) rfl)⟩
theorem lw_p101 : lw_okq (⟨"ShortEnoughModel", "castError", "(IZ)J"⟩, 67) := ⟨lnh10, ltin6 _ (List.mem_of_getElem? (i := 14) rfl), ltin8 _ (List.mem_of_getElem? (i := 75) rfl), ltin8 _ (List.mem_of_getElem? (i := 76) rfl)⟩
theorem lw_p102 : lw_okq (⟨"ShortEnoughModel", "isAnswer", "(I)Z"⟩, 67) := ⟨lnh10, ltin6 _ (List.mem_of_getElem? (i := 14) rfl), ltin8 _ (List.mem_of_getElem? (i := 91) rfl), ltin8 _ (List.mem_of_getElem? (i := 92) rfl)⟩
theorem lw_p103 : lw_okq (⟨"ShortEnoughModel", "finest", "()I"⟩, 67) := ⟨lnh10, ltin6 _ (List.mem_of_getElem? (i := 14) rfl), ltin8 _ (List.mem_of_getElem? (i := 104) rfl), ltin8 _ (List.mem_of_getElem? (i := 105) rfl)⟩
theorem lw_p104 : lw_okq (⟨"ShortEnoughModel", "triesGroup", "(II)V"⟩, 67) := ⟨lnh10, ltin6 _ (List.mem_of_getElem? (i := 14) rfl), ltin8 _ (List.mem_of_getElem? (i := 108) rfl), ltin8 _ (List.mem_of_getElem? (i := 109) rfl)⟩
theorem lw_p105 : lw_okq (⟨"ShortEnoughModel", "canSearch", "()Z"⟩, 67) := ⟨lnh10, ltin6 _ (List.mem_of_getElem? (i := 14) rfl), ltin8 _ (List.mem_of_getElem? (i := 116) rfl), ltin8 _ (List.mem_of_getElem? (i := 117) rfl)⟩
theorem lw_p106 : lw_okq (⟨"ShortEnoughModel", "cheapestChoice", "()I"⟩, 67) := ⟨lnh10, ltin6 _ (List.mem_of_getElem? (i := 14) rfl), ltin8 _ (List.mem_of_getElem? (i := 120) rfl), ltin8 _ (List.mem_of_getElem? (i := 121) rfl)⟩
theorem lw_p107 : lw_okq (⟨"ShortEnoughModel", "allChoices", "()I"⟩, 67) := ⟨lnh10, ltin6 _ (List.mem_of_getElem? (i := 14) rfl), ltin8 _ (List.mem_of_getElem? (i := 124) rfl), ltin8 _ (List.mem_of_getElem? (i := 125) rfl)⟩
theorem lw_p108 : lw_okq (⟨"ShortEnoughModel", "triesChoice", "(I)V"⟩, 67) := ⟨lnh10, ltin6 _ (List.mem_of_getElem? (i := 14) rfl), ltin8 _ (List.mem_of_getElem? (i := 128) rfl), ltin8 _ (List.mem_of_getElem? (i := 129) rfl)⟩
theorem lw_p109 : lw_okq (⟨"ShortEnoughModel", "halve", "()Z"⟩, 67) := ⟨lnh10, ltin6 _ (List.mem_of_getElem? (i := 14) rfl), ltin8 _ (List.mem_of_getElem? (i := 140) rfl), ltin8 _ (List.mem_of_getElem? (i := 141) rfl)⟩
theorem lw_p110 : lw_okq (⟨"ShortEnoughModel", "keepsTried", "()V"⟩, 67) := ⟨lnh10, ltin6 _ (List.mem_of_getElem? (i := 14) rfl), ltin8 _ (List.mem_of_getElem? (i := 144) rfl), ltin8 _ (List.mem_of_getElem? (i := 145) rfl)⟩
theorem lw_p111 : lw_okq (⟨"ShortEnoughModel", "halvesBy", "(I)V"⟩, 67) := ⟨lnh10, ltin6 _ (List.mem_of_getElem? (i := 14) rfl), ltin8 _ (List.mem_of_getElem? (i := 148) rfl), ltin8 _ (List.mem_of_getElem? (i := 149) rfl)⟩
noncomputable def lw_privs_7 : List (MethodName × Nat) := [(⟨"ShortEnoughModel", "castsTried", "()I"⟩, 67), (⟨"ShortEnoughModel", "isCast", "(II)Z"⟩, 67), (⟨"ShortEnoughModel", "handPasses", "()Z"⟩, 67), (⟨"ShortEnoughModel", "passes", "()Z"⟩, 67), (⟨"ShortEnoughModel", "laysError", "(I)V"⟩, 67), (⟨"ShortEnoughModel", "castError", "(IZ)J"⟩, 67), (⟨"ShortEnoughModel", "isAnswer", "(I)Z"⟩, 67), (⟨"ShortEnoughModel", "finest", "()I"⟩, 67), (⟨"ShortEnoughModel", "triesGroup", "(II)V"⟩, 67), (⟨"ShortEnoughModel", "canSearch", "()Z"⟩, 67), (⟨"ShortEnoughModel", "cheapestChoice", "()I"⟩, 67), (⟨"ShortEnoughModel", "allChoices", "()I"⟩, 67), (⟨"ShortEnoughModel", "triesChoice", "(I)V"⟩, 67), (⟨"ShortEnoughModel", "halve", "()Z"⟩, 67), (⟨"ShortEnoughModel", "keepsTried", "()V"⟩, 67), (⟨"ShortEnoughModel", "halvesBy", "(I)V"⟩, 67)]
theorem lw_r7 : ∀ q ∈ lw_privs_7, lw_okq q := List.forall_mem_cons.mpr ⟨lw_p96, List.forall_mem_cons.mpr ⟨lw_p97, List.forall_mem_cons.mpr ⟨lw_p98, List.forall_mem_cons.mpr ⟨lw_p99, List.forall_mem_cons.mpr ⟨lw_p100, List.forall_mem_cons.mpr ⟨lw_p101, List.forall_mem_cons.mpr ⟨lw_p102, List.forall_mem_cons.mpr ⟨lw_p103, List.forall_mem_cons.mpr ⟨lw_p104, List.forall_mem_cons.mpr ⟨lw_p105, List.forall_mem_cons.mpr ⟨lw_p106, List.forall_mem_cons.mpr ⟨lw_p107, List.forall_mem_cons.mpr ⟨lw_p108, List.forall_mem_cons.mpr ⟨lw_p109, List.forall_mem_cons.mpr ⟨lw_p110, List.forall_mem_cons.mpr ⟨lw_p111, fun _ h => absurd h List.not_mem_nil⟩⟩⟩⟩⟩⟩⟩⟩⟩⟩⟩⟩⟩⟩⟩⟩
theorem lw_p112 : lw_okq (⟨"ShortEnoughModel", "isBetter", "(III)Z"⟩, 67) := ⟨lnh10, ltin6 _ (List.mem_of_getElem? (i := 14) rfl), ltin8 _ (List.mem_of_getElem? (i := 152) rfl), ltin8 _ (List.mem_of_getElem? (i := 153) rfl)⟩
theorem lw_p113 : lw_okq (⟨"ShortEnoughModel", "laysSingle", "()V"⟩, 67) := ⟨lnh10, ltin6 _ (List.mem_of_getElem? (i := 14) rfl), ltin8 _ (List.mem_of_getElem? (i := 161) rfl), ltin8 _ (List.mem_of_getElem? (i := 162) rfl)⟩
theorem lw_p114 : lw_okq (⟨"ShortEnoughModel", "canTake", "(I)Z"⟩, 67) := ⟨lnh10, ltin6 _ (List.mem_of_getElem? (i := 14) rfl), ltin8 _ (List.mem_of_getElem? (i := 169) rfl), ltin8 _ (List.mem_of_getElem? (i := 170) rfl)⟩
theorem lw_p115 : lw_okq (⟨"ShortEnoughModel", "takesTried", "()V"⟩, 67) := ⟨lnh10, ltin6 _ (List.mem_of_getElem? (i := 14) rfl), ltin8 _ (List.mem_of_getElem? (i := 173) rfl), ltin8 _ (List.mem_of_getElem? (i := 174) rfl)⟩
theorem lw_p116 : lw_okq (⟨"ShortEnoughModel", "laysFront", "(I)V"⟩, 67) := ⟨lnh10, ltin6 _ (List.mem_of_getElem? (i := 14) rfl), ltin8 _ (List.mem_of_getElem? (i := 181) rfl), ltin8 _ (List.mem_of_getElem? (i := 182) rfl)⟩
theorem lw_p117 : lw_okq (⟨"ShortEnoughModel", "laysCouple", "(IJ)V"⟩, 67) := ⟨lnh10, ltin6 _ (List.mem_of_getElem? (i := 14) rfl), ltin8 _ (List.mem_of_getElem? (i := 185) rfl), ltin8 _ (List.mem_of_getElem? (i := 186) rfl)⟩
theorem lw_p118 : lw_okq (⟨"ShortEnoughModel", "readsLong", "(I)J"⟩, 67) := ⟨lnh10, ltin6 _ (List.mem_of_getElem? (i := 14) rfl), ltin8 _ (List.mem_of_getElem? (i := 205) rfl), ltin8 _ (List.mem_of_getElem? (i := 206) rfl)⟩
theorem lw_p119 : lw_okq (⟨"ShortEnoughModel", "breaks", "(I)I"⟩, 67) := ⟨lnh10, ltin6 _ (List.mem_of_getElem? (i := 14) rfl), ltin8 _ (List.mem_of_getElem? (i := 211) rfl), ltin8 _ (List.mem_of_getElem? (i := 212) rfl)⟩
theorem lw_p120 : lw_okq (⟨"ShortEnoughModel", "isFormatSaid", "(I)Z"⟩, 67) := ⟨lnh10, ltin6 _ (List.mem_of_getElem? (i := 14) rfl), ltin8 _ (List.mem_of_getElem? (i := 215) rfl), ltin8 _ (List.mem_of_getElem? (i := 216) rfl)⟩
theorem lw_p121 : lw_okq (⟨"ShortEnoughModel", "triesOnce", "()V"⟩, 67) := ⟨lnh10, ltin6 _ (List.mem_of_getElem? (i := 14) rfl), ltin8 _ (List.mem_of_getElem? (i := 228) rfl), ltin8 _ (List.mem_of_getElem? (i := 229) rfl)⟩
theorem lw_p122 : lw_okq (⟨"ShortEnoughModel", "draw", "(J)J"⟩, 67) := ⟨lnh10, ltin6 _ (List.mem_of_getElem? (i := 14) rfl), ltin8 _ (List.mem_of_getElem? (i := 232) rfl), ltin8 _ (List.mem_of_getElem? (i := 233) rfl)⟩
theorem lw_p123 : lw_okq (⟨"ShortEnoughModel", "exactOf", "(IZ)J"⟩, 67) := ⟨lnh10, ltin6 _ (List.mem_of_getElem? (i := 14) rfl), ltin9 _ (List.mem_of_getElem? (i := 2) rfl), ltin9 _ (List.mem_of_getElem? (i := 3) rfl)⟩
theorem lw_p124 : lw_okq (⟨"ShortEnoughModel", "castOf", "(IZ)J"⟩, 67) := ⟨lnh10, ltin6 _ (List.mem_of_getElem? (i := 14) rfl), ltin9 _ (List.mem_of_getElem? (i := 6) rfl), ltin9 _ (List.mem_of_getElem? (i := 7) rfl)⟩
noncomputable def lw_privs_8 : List (MethodName × Nat) := [(⟨"ShortEnoughModel", "isBetter", "(III)Z"⟩, 67), (⟨"ShortEnoughModel", "laysSingle", "()V"⟩, 67), (⟨"ShortEnoughModel", "canTake", "(I)Z"⟩, 67), (⟨"ShortEnoughModel", "takesTried", "()V"⟩, 67), (⟨"ShortEnoughModel", "laysFront", "(I)V"⟩, 67), (⟨"ShortEnoughModel", "laysCouple", "(IJ)V"⟩, 67), (⟨"ShortEnoughModel", "readsLong", "(I)J"⟩, 67), (⟨"ShortEnoughModel", "breaks", "(I)I"⟩, 67), (⟨"ShortEnoughModel", "isFormatSaid", "(I)Z"⟩, 67), (⟨"ShortEnoughModel", "triesOnce", "()V"⟩, 67), (⟨"ShortEnoughModel", "draw", "(J)J"⟩, 67), (⟨"ShortEnoughModel", "exactOf", "(IZ)J"⟩, 67), (⟨"ShortEnoughModel", "castOf", "(IZ)J"⟩, 67)]
theorem lw_r8 : ∀ q ∈ lw_privs_8, lw_okq q := List.forall_mem_cons.mpr ⟨lw_p112, List.forall_mem_cons.mpr ⟨lw_p113, List.forall_mem_cons.mpr ⟨lw_p114, List.forall_mem_cons.mpr ⟨lw_p115, List.forall_mem_cons.mpr ⟨lw_p116, List.forall_mem_cons.mpr ⟨lw_p117, List.forall_mem_cons.mpr ⟨lw_p118, List.forall_mem_cons.mpr ⟨lw_p119, List.forall_mem_cons.mpr ⟨lw_p120, List.forall_mem_cons.mpr ⟨lw_p121, List.forall_mem_cons.mpr ⟨lw_p122, List.forall_mem_cons.mpr ⟨lw_p123, List.forall_mem_cons.mpr ⟨lw_p124, fun _ h => absurd h List.not_mem_nil⟩⟩⟩⟩⟩⟩⟩⟩⟩⟩⟩⟩⟩
noncomputable def lw_privs : List (MethodName × Nat) := lw_privs_1 ++ (lw_privs_2 ++ (lw_privs_3 ++ (lw_privs_4 ++ (lw_privs_5 ++ (lw_privs_6 ++ (lw_privs_7 ++ (lw_privs_8)))))))
noncomputable def lw_tbl : List Cond := k2_sels lw_privs ++ tables_1
theorem lw_privs_ok : ∀ q ∈ lw_privs, lw_okq q := by
  show ∀ q ∈ lw_privs_1 ++ (lw_privs_2 ++ (lw_privs_3 ++ (lw_privs_4 ++ (lw_privs_5 ++ (lw_privs_6 ++ (lw_privs_7 ++ (lw_privs_8))))))), lw_okq q
  exact List.forall_mem_append.mpr ⟨lw_r1, List.forall_mem_append.mpr ⟨lw_r2, List.forall_mem_append.mpr ⟨lw_r3, List.forall_mem_append.mpr ⟨lw_r4, List.forall_mem_append.mpr ⟨lw_r5, List.forall_mem_append.mpr ⟨lw_r6, List.forall_mem_append.mpr ⟨lw_r7, lw_r8⟩⟩⟩⟩⟩⟩⟩
noncomputable def RL : String := "ShortEnoughLaw"
noncomputable abbrev cL_law : ByteArray := code
noncomputable def wsJ0_coder_7d493 : List Cond := .code yJ0_coder_7d493 cJ0_coder_7d493 1 (some .byte) :: ([.fieldLink RJ0 38 "java/lang/String" "COMPACT_STRINGS" "Z", .fieldLink RJ0 15 "java/lang/String" "coder" "B"])
noncomputable def wsJ0_isLatin1_aae02 : List Cond := .code yJ0_isLatin1_aae02 cJ0_isLatin1_aae02 1 (some .boolean) :: ([.fieldLink RJ0 38 "java/lang/String" "COMPACT_STRINGS" "Z", .fieldLink RJ0 15 "java/lang/String" "coder" "B"])
noncomputable def wsJ3_checkIndex_8e157 : List Cond := .code yJ3_checkIndex_8e157 cJ3_checkIndex_8e157 3 (some .int) :: ([])
noncomputable def wsJ0_checkIndex_df160 : List Cond := .code yJ0_checkIndex_df160 cJ0_checkIndex_df160 2 none :: ([.fieldLink RJ0 1053 "jdk/internal/util/Preconditions" "SIOOBE_FORMATTER" "Ljava/util/function/BiFunction;", .methodLink RJ0 1059 yJ3_checkIndex_8e157, .static yJ3_checkIndex_8e157, .initialized RJ3, .code yJ3_checkIndex_8e157 cJ3_checkIndex_8e157 3 (some .int)])
noncomputable def wsJ1_charAt_3b067 : List Cond := .code yJ1_charAt_3b067 cJ1_charAt_3b067 2 (some .char) :: ([.methodLink RJ1 9 yJ0_checkIndex_df160, .static yJ0_checkIndex_df160, .initialized RJ0, .code yJ0_checkIndex_df160 cJ0_checkIndex_df160 2 none, .fieldLink RJ0 1053 "jdk/internal/util/Preconditions" "SIOOBE_FORMATTER" "Ljava/util/function/BiFunction;", .methodLink RJ0 1059 yJ3_checkIndex_8e157, .static yJ3_checkIndex_8e157, .initialized RJ3, .code yJ3_checkIndex_8e157 cJ3_checkIndex_8e157 3 (some .int)])
noncomputable def wsL_law_r1 : List Cond := [Cond.classLink RL 7 RX11, Cond.instantiable RX11 16, Cond.initialized RX11, Cond.classLink RL 10 RX12, Cond.instantiable RX12 67, Cond.initialized RX12, Cond.methodLink RL 9 yX11_init, Cond.instanceMethod yX11_init, Cond.code yX11_init cX11_init 1 none, Cond.methodLink RX11 1 objectInit, Cond.instanceMethod objectInit, Cond.code objectInit ⟨#[0xb1]⟩ 1 none, Cond.arrayClass .byte, Cond.fieldLink RX11 9 "ShortEnough" "tape" "[B", Cond.arrayClass .int, Cond.fieldLink RX11 13 "ShortEnough" "refused" "[I", Cond.classLink RX11 17 RX5, Cond.instantiable RX5 4, Cond.initialized RX5, Cond.fieldLink RX11 20 "ShortEnough" "parser" "LShortEnough$Parser;", Cond.classLink RX11 24 RX9, Cond.instantiable RX9 9, Cond.initialized RX9, Cond.fieldLink RX11 27 "ShortEnough" "current" "LShortEnough$Task;"]
noncomputable def wsL_law_r2 : List Cond := [Cond.fieldLink RX11 31 "ShortEnough" "spare" "LShortEnough$Task;", Cond.fieldLink RX11 34 "ShortEnough" "hand" "[I", Cond.fieldLink RX11 37 "ShortEnough" "other" "[I", Cond.classLink RX11 40 RX7, Cond.instantiable RX7 3, Cond.initialized RX7, Cond.fieldLink RX11 43 "ShortEnough" "reckoning" "LShortEnough$Reckoning;", Cond.fieldLink RX11 47 "ShortEnough" "otherReckoning" "LShortEnough$Reckoning;", Cond.classLink RX11 50 RX6, Cond.instantiable RX6 3, Cond.initialized RX6, Cond.fieldLink RX11 53 "ShortEnough" "longerRanges" "LShortEnough$Ranges;", Cond.classLink RX11 57 RX1, Cond.instantiable RX1 14, Cond.initialized RX1, Cond.fieldLink RX11 60 "ShortEnough" "full" "LShortEnough$FullSearch;", Cond.classLink RX11 64 RX3, Cond.instantiable RX3 16, Cond.initialized RX3, Cond.fieldLink RX11 67 "ShortEnough" "local" "LShortEnough$LocalSearch;", Cond.classLink RX11 71 RX0, Cond.instantiable RX0 5, Cond.initialized RX0, Cond.fieldLink RX11 74 "ShortEnough" "reader" "LShortEnough$CertificateReader;"]
noncomputable def wsL_law_r3 : List Cond := [Cond.classLink RX11 78 RX8, Cond.instantiable RX8 2, Cond.initialized RX8, Cond.fieldLink RX11 81 "ShortEnough" "sampler" "LShortEnough$Sampler;", Cond.fieldLink RX11 85 "ShortEnough" "seedNow" "I", Cond.instanceMethod yX5_init, Cond.code yX5_init cX5_init 1 none, Cond.methodLink RX5 3 objectInit, Cond.classLink RX5 9 RX10, Cond.instantiable RX10 8, Cond.initialized RX10, Cond.fieldLink RX5 12 "ShortEnough$Parser" "words" "LShortEnough$Words;", Cond.fieldLink RX5 18 "ShortEnough$Parser" "faultPlace" "I", Cond.methodLink RX5 11 yX10_init, Cond.instanceMethod yX10_init, Cond.code yX10_init cX10_init 5 none, Cond.methodLink RX10 3 objectInit, Cond.fieldLink RX10 11 "ShortEnough$Words" "ownNames" "[I", Cond.fieldLink RX10 15 "ShortEnough$Words" "text" "[B", Cond.methodLink RX10 21 yJ0_length_8abf5, Cond.instanceMethod yJ0_length_8abf5, Cond.selects RJ0 yJ0_length_8abf5 yJ0_length_8abf5, Cond.initialized RJ0, Cond.code yJ0_length_8abf5 cJ0_length_8abf5 1 (some .int)]
noncomputable def wsL_law_r4 : List Cond := [Cond.fieldLink RJ0 9 "java/lang/String" "value" "[B", Cond.methodLink RJ0 335 yJ0_coder_7d493, Cond.instanceMethod yJ0_coder_7d493, Cond.selects RJ0 yJ0_coder_7d493 yJ0_coder_7d493, Cond.code yJ0_coder_7d493 cJ0_coder_7d493 1 (some .byte), Cond.fieldLink RJ0 38 "java/lang/String" "COMPACT_STRINGS" "Z", Cond.fieldLink RJ0 15 "java/lang/String" "coder" "B", Cond.methodLink RX10 27 yJ0_charAt_5068e, Cond.instanceMethod yJ0_charAt_5068e, Cond.selects RJ0 yJ0_charAt_5068e yJ0_charAt_5068e, Cond.code yJ0_charAt_5068e cJ0_charAt_5068e 2 (some .char), Cond.methodLink RJ0 492 yJ0_isLatin1_aae02, Cond.instanceMethod yJ0_isLatin1_aae02, Cond.selects RJ0 yJ0_isLatin1_aae02 yJ0_isLatin1_aae02, Cond.code yJ0_isLatin1_aae02 cJ0_isLatin1_aae02 1 (some .boolean), Cond.methodLink RJ0 495 yJ1_charAt_3b067, Cond.static yJ1_charAt_3b067, Cond.initialized RJ1, Cond.code yJ1_charAt_3b067 cJ1_charAt_3b067 2 (some .char), Cond.methodLink RJ1 9 yJ0_checkIndex_df160, Cond.static yJ0_checkIndex_df160, Cond.code yJ0_checkIndex_df160 cJ0_checkIndex_df160 2 none, Cond.fieldLink RJ0 1053 "jdk/internal/util/Preconditions" "SIOOBE_FORMATTER" "Ljava/util/function/BiFunction;", Cond.methodLink RJ0 1059 yJ3_checkIndex_8e157]
noncomputable def wsL_law_r5 : List Cond := [Cond.static yJ3_checkIndex_8e157, Cond.initialized RJ3, Cond.code yJ3_checkIndex_8e157 cJ3_checkIndex_8e157 3 (some .int), Cond.methodLink RJ0 498 yJ2_charAt_3b067, Cond.static yJ2_charAt_3b067, Cond.initialized RJ2, Cond.code yJ2_charAt_3b067 cJ2_charAt_3b067 2 (some .char), Cond.methodLink RJ2 67 yJ2_checkIndex_2214a, Cond.static yJ2_checkIndex_2214a, Cond.code yJ2_checkIndex_2214a cJ2_checkIndex_2214a 2 none, Cond.methodLink RJ2 48 yJ2_length_9d52b, Cond.static yJ2_length_9d52b, Cond.code yJ2_length_9d52b cJ2_length_9d52b 1 (some .int), Cond.methodLink RJ2 414 yJ0_checkIndex_df160, Cond.methodLink RJ2 71 yJ2_getChar_3b067, Cond.static yJ2_getChar_3b067, Cond.code yJ2_getChar_3b067 cJ2_getChar_3b067 2 (some .char), Cond.fieldLink RJ2 44 "java/lang/StringUTF16" "$assertionsDisabled" "Z", Cond.fieldLink RJ2 59 "java/lang/StringUTF16" "HI_BYTE_SHIFT" "I", Cond.fieldLink RJ2 63 "java/lang/StringUTF16" "LO_BYTE_SHIFT" "I", Cond.instanceMethod yX9_init, Cond.code yX9_init cX9_init 1 none, Cond.methodLink RX9 3 objectInit, Cond.fieldLink RX9 9 "ShortEnough$Task" "formatName" "[I"]
noncomputable def wsL_law_r6 : List Cond := [Cond.fieldLink RX9 15 "ShortEnough$Task" "step" "[I", Cond.fieldLink RX9 18 "ShortEnough$Task" "most" "[I", Cond.fieldLink RX9 21 "ShortEnough$Task" "price" "[I", Cond.classLink RX9 24 RX4, Cond.instantiable RX4 10, Cond.initialized RX4, Cond.fieldLink RX9 27 "ShortEnough$Task" "numbers" "LShortEnough$Numbers;", Cond.classLink RX9 31 RX2, Cond.instantiable RX2 6, Cond.initialized RX2, Cond.fieldLink RX9 34 "ShortEnough$Task" "groups" "LShortEnough$Groups;", Cond.classLink RX9 38 RX6, Cond.fieldLink RX9 41 "ShortEnough$Task" "ranges" "LShortEnough$Ranges;", Cond.instanceMethod yX4_init, Cond.code yX4_init cX4_init 1 none, Cond.methodLink RX4 3 objectInit, Cond.fieldLink RX4 9 "ShortEnough$Numbers" "name" "[I", Cond.fieldLink RX4 15 "ShortEnough$Numbers" "op" "[I", Cond.fieldLink RX4 18 "ShortEnough$Numbers" "fixedAs" "[I", Cond.fieldLink RX4 21 "ShortEnough$Numbers" "allowed" "[I", Cond.fieldLink RX4 24 "ShortEnough$Numbers" "lets" "[I", Cond.fieldLink RX4 27 "ShortEnough$Numbers" "joined" "[I", Cond.fieldLink RX4 30 "ShortEnough$Numbers" "made" "[I", Cond.fieldLink RX4 33 "ShortEnough$Numbers" "amount" "[I"]
noncomputable def wsL_law_r7 : List Cond := [Cond.instanceMethod yX2_init, Cond.code yX2_init cX2_init 1 none, Cond.methodLink RX2 3 objectInit, Cond.fieldLink RX2 9 "ShortEnough$Groups" "of" "[I", Cond.fieldLink RX2 15 "ShortEnough$Groups" "fixedAs" "[I", Cond.fieldLink RX2 18 "ShortEnough$Groups" "leader" "[I", Cond.instanceMethod yX6_init, Cond.code yX6_init cX6_init 1 none, Cond.methodLink RX6 3 objectInit, Cond.arrayClass .long, Cond.fieldLink RX6 9 "ShortEnough$Ranges" "low" "[J", Cond.fieldLink RX6 15 "ShortEnough$Ranges" "high" "[J", Cond.arrayClass .boolean, Cond.fieldLink RX6 18 "ShortEnough$Ranges" "wide" "[Z", Cond.instanceMethod yX7_init, Cond.code yX7_init cX7_init 1 none, Cond.methodLink RX7 3 objectInit, Cond.fieldLink RX7 9 "ShortEnough$Reckoning" "errors" "[J", Cond.instanceMethod yX1_init, Cond.code yX1_init cX1_init 1 none, Cond.methodLink RX1 3 objectInit, Cond.classLink RX1 9 RX7, Cond.fieldLink RX1 12 "ShortEnough$FullSearch" "reckoning" "LShortEnough$Reckoning;", Cond.fieldLink RX1 18 "ShortEnough$FullSearch" "choice" "[I"]
noncomputable def wsL_law_r8 : List Cond := [Cond.fieldLink RX1 22 "ShortEnough$FullSearch" "prices" "[I", Cond.fieldLink RX1 25 "ShortEnough$FullSearch" "errors" "[I", Cond.fieldLink RX1 28 "ShortEnough$FullSearch" "best" "I", Cond.fieldLink RX1 32 "ShortEnough$FullSearch" "frontOf" "I", Cond.fieldLink RX1 35 "ShortEnough$FullSearch" "frontPrice" "[I", Cond.fieldLink RX1 38 "ShortEnough$FullSearch" "frontError" "[I", Cond.fieldLink RX1 41 "ShortEnough$FullSearch" "frontMany" "[I", Cond.instanceMethod yX3_init, Cond.code yX3_init cX3_init 1 none, Cond.methodLink RX3 3 objectInit, Cond.classLink RX3 9 RX7, Cond.fieldLink RX3 12 "ShortEnough$LocalSearch" "reckoning" "LShortEnough$Reckoning;", Cond.fieldLink RX3 18 "ShortEnough$LocalSearch" "near" "[I", Cond.fieldLink RX3 22 "ShortEnough$LocalSearch" "changed" "[Z", Cond.fieldLink RX3 26 "ShortEnough$LocalSearch" "unchanged" "[I", Cond.fieldLink RX3 29 "ShortEnough$LocalSearch" "partFrom" "[I", Cond.fieldLink RX3 32 "ShortEnough$LocalSearch" "partTo" "[I", Cond.fieldLink RX3 35 "ShortEnough$LocalSearch" "row" "[I", Cond.fieldLink RX3 38 "ShortEnough$LocalSearch" "bestGroup" "I", Cond.fieldLink RX3 42 "ShortEnough$LocalSearch" "bestFormat" "I", Cond.instanceMethod yX0_init, Cond.code yX0_init cX0_init 1 none, Cond.methodLink RX0 3 objectInit, Cond.classLink RX0 9 RX6]
noncomputable def wsL_law_r9 : List Cond := [Cond.fieldLink RX0 12 "ShortEnough$CertificateReader" "said" "LShortEnough$Ranges;", Cond.classLink RX0 18 RX7, Cond.fieldLink RX0 21 "ShortEnough$CertificateReader" "saidErrors" "LShortEnough$Reckoning;", Cond.fieldLink RX0 25 "ShortEnough$CertificateReader" "choice" "[I", Cond.fieldLink RX0 29 "ShortEnough$CertificateReader" "breaksAt" "I", Cond.fieldLink RX0 33 "ShortEnough$CertificateReader" "reason" "I", Cond.instanceMethod yX8_init, Cond.code yX8_init cX8_init 1 none, Cond.methodLink RX8 3 objectInit, Cond.fieldLink RX8 9 "ShortEnough$Sampler" "exact" "[J", Cond.fieldLink RX8 15 "ShortEnough$Sampler" "kept" "[J", Cond.methodLink RL 12 yX12_init, Cond.instanceMethod yX12_init, Cond.code yX12_init cX12_init 1 none, Cond.methodLink RX12 1 objectInit, Cond.fieldLink RX12 7 "ShortEnoughModel" "tape" "[I", Cond.fieldLink RX12 13 "ShortEnoughModel" "taped" "I", Cond.fieldLink RX12 17 "ShortEnoughModel" "refused" "[I", Cond.fieldLink RX12 20 "ShortEnoughModel" "faultKind" "I", Cond.fieldLink RX12 23 "ShortEnoughModel" "faultPlace" "I", Cond.fieldLink RX12 26 "ShortEnoughModel" "size" "I", Cond.fieldLink RX12 29 "ShortEnoughModel" "at" "I", Cond.fieldLink RX12 32 "ShortEnoughModel" "begun" "I", Cond.fieldLink RX12 35 "ShortEnoughModel" "wrong" "I"]
noncomputable def wsL_law_r10 : List Cond := [Cond.fieldLink RX12 38 "ShortEnoughModel" "wrongAt" "I", Cond.fieldLink RX12 41 "ShortEnoughModel" "ownLetters" "[I", Cond.fieldLink RX12 44 "ShortEnoughModel" "in" "I", Cond.fieldLink RX12 47 "ShortEnoughModel" "formats" "[I", Cond.fieldLink RX12 50 "ShortEnoughModel" "formatName" "[I", Cond.fieldLink RX12 53 "ShortEnoughModel" "step" "[I", Cond.fieldLink RX12 56 "ShortEnoughModel" "most" "[I", Cond.fieldLink RX12 59 "ShortEnoughModel" "formatCost" "[I", Cond.fieldLink RX12 62 "ShortEnoughModel" "numbers" "[I", Cond.fieldLink RX12 65 "ShortEnoughModel" "numberName" "[I", Cond.fieldLink RX12 68 "ShortEnoughModel" "op" "[I", Cond.fieldLink RX12 71 "ShortEnoughModel" "first" "[I", Cond.fieldLink RX12 74 "ShortEnoughModel" "second" "[I", Cond.fieldLink RX12 77 "ShortEnoughModel" "firstV" "[J", Cond.fieldLink RX12 81 "ShortEnoughModel" "secondV" "[J", Cond.fieldLink RX12 84 "ShortEnoughModel" "castCost" "[I", Cond.fieldLink RX12 87 "ShortEnoughModel" "fixedAs" "[I", Cond.fieldLink RX12 90 "ShortEnoughModel" "within" "[I", Cond.fieldLink RX12 93 "ShortEnoughModel" "groupOf" "[I", Cond.fieldLink RX12 96 "ShortEnoughModel" "whatV" "J", Cond.fieldLink RX12 100 "ShortEnoughModel" "free" "[I", Cond.fieldLink RX12 103 "ShortEnoughModel" "freeMany" "I", Cond.fieldLink RX12 106 "ShortEnoughModel" "least" "[J", Cond.fieldLink RX12 109 "ShortEnoughModel" "greatest" "[J"]
noncomputable def wsL_law_r11 : List Cond := [Cond.fieldLink RX12 112 "ShortEnoughModel" "wideNumber" "I", Cond.fieldLink RX12 115 "ShortEnoughModel" "wideBy" "J", Cond.fieldLink RX12 118 "ShortEnoughModel" "isGreat" "[Z", Cond.fieldLink RX12 122 "ShortEnoughModel" "deep" "[I", Cond.fieldLink RX12 125 "ShortEnoughModel" "hand" "[I", Cond.fieldLink RX12 128 "ShortEnoughModel" "hasHand" "Z", Cond.fieldLink RX12 132 "ShortEnoughModel" "tried" "[I", Cond.fieldLink RX12 135 "ShortEnoughModel" "error" "[J", Cond.fieldLink RX12 138 "ShortEnoughModel" "failsAt" "I", Cond.fieldLink RX12 141 "ShortEnoughModel" "failsWhy" "I", Cond.fieldLink RX12 144 "ShortEnoughModel" "soFar" "[I", Cond.fieldLink RX12 147 "ShortEnoughModel" "soFarCost" "I", Cond.fieldLink RX12 150 "ShortEnoughModel" "tries" "I", Cond.fieldLink RX12 153 "ShortEnoughModel" "hasChanged" "[Z", Cond.fieldLink RX12 156 "ShortEnoughModel" "row" "[I", Cond.fieldLink RX12 159 "ShortEnoughModel" "partFrom" "[I", Cond.fieldLink RX12 162 "ShortEnoughModel" "partMany" "[I", Cond.fieldLink RX12 165 "ShortEnoughModel" "singlePass" "I", Cond.fieldLink RX12 168 "ShortEnoughModel" "singleLess" "I", Cond.fieldLink RX12 171 "ShortEnoughModel" "singleGroup" "I", Cond.fieldLink RX12 174 "ShortEnoughModel" "singleFormat" "I", Cond.fieldLink RX12 177 "ShortEnoughModel" "frontCost" "[I", Cond.fieldLink RX12 180 "ShortEnoughModel" "frontError" "[J", Cond.fieldLink RX12 183 "ShortEnoughModel" "frontMany" "[I"]
noncomputable def wsL_law_r12 : List Cond := [Cond.fieldLink RX12 186 "ShortEnoughModel" "fronts" "I", Cond.fieldLink RX12 189 "ShortEnoughModel" "brokenAt" "I", Cond.fieldLink RX12 192 "ShortEnoughModel" "brokenWhy" "I", Cond.fieldLink RX12 195 "ShortEnoughModel" "saysFormat" "[I", Cond.fieldLink RX12 198 "ShortEnoughModel" "saysLeast" "[J", Cond.fieldLink RX12 201 "ShortEnoughModel" "saysGreatest" "[J", Cond.fieldLink RX12 204 "ShortEnoughModel" "saysError" "[J", Cond.fieldLink RX12 207 "ShortEnoughModel" "seedNow" "I", Cond.fieldLink RX12 210 "ShortEnoughModel" "exact" "[J", Cond.fieldLink RX12 213 "ShortEnoughModel" "keptAs" "[J", Cond.methodLink RL 13 yX11_feed, Cond.instanceMethod yX11_feed, Cond.selects RX11 yX11_feed yX11_feed, Cond.code yX11_feed cX11_feed 6 (some .int), Cond.fieldLink RX11 89 "ShortEnough" "tapeLength" "I", Cond.methodLink RX11 92 yX11_refuse, Cond.instanceMethod yX11_refuse, Cond.selects RX11 yX11_refuse yX11_refuse, Cond.code yX11_refuse cX11_refuse 2 (some .int), Cond.methodLink RX11 96 yX11_putBytes, Cond.instanceMethod yX11_putBytes, Cond.selects RX11 yX11_putBytes yX11_putBytes, Cond.code yX11_putBytes cX11_putBytes 3 none, Cond.methodLink RL 17 yX12_feed]
noncomputable def wsL_law_r13 : List Cond := [Cond.instanceMethod yX12_feed, Cond.selects RX12 yX12_feed yX12_feed, Cond.code yX12_feed cX12_feed 6 (some .int), Cond.methodLink RX12 216 yX12_refuses, Cond.instanceMethod yX12_refuses, Cond.selects RX12 yX12_refuses yX12_refuses, Cond.code yX12_refuses cX12_refuses 2 (some .int), Cond.methodLink RX12 220 yX12_lays, Cond.instanceMethod yX12_lays, Cond.selects RX12 yX12_lays yX12_lays, Cond.code yX12_lays cX12_lays 3 none, Cond.methodLink RL 18 yX11_end, Cond.instanceMethod yX11_end, Cond.selects RX11 yX11_end yX11_end, Cond.code yX11_end cX11_end 2 (some .boolean), Cond.methodLink RL 22 yX12_end, Cond.instanceMethod yX12_end, Cond.selects RX12 yX12_end yX12_end, Cond.code yX12_end cX12_end 2 (some .boolean), Cond.methodLink RX12 224 yX12_isRefused, Cond.instanceMethod yX12_isRefused, Cond.selects RX12 yX12_isRefused yX12_isRefused, Cond.code yX12_isRefused cX12_isRefused 2 (some .boolean), Cond.methodLink RL 23 yX11_task]
noncomputable def wsL_law_r14 : List Cond := [Cond.instanceMethod yX11_task, Cond.selects RX11 yX11_task yX11_task, Cond.code yX11_task cX11_task 3 (some .int), Cond.fieldLink RX11 107 "ShortEnough$Task" "groups" "LShortEnough$Groups;", Cond.fieldLink RX11 122 "ShortEnough$Task" "numbers" "LShortEnough$Numbers;", Cond.fieldLink RX11 126 "ShortEnough$Numbers" "count" "I", Cond.methodLink RX11 100 yX5_read, Cond.instanceMethod yX5_read, Cond.selects RX5 yX5_read yX5_read, Cond.code yX5_read cX5_read 5 (some .boolean), Cond.fieldLink RX5 22 "ShortEnough$Parser" "faultKind" "I", Cond.fieldLink RX5 34 "ShortEnough$Words" "kind" "I", Cond.fieldLink RX5 41 "ShortEnough$Task" "formats" "I", Cond.fieldLink RX5 44 "ShortEnough$Task" "numbers" "LShortEnough$Numbers;", Cond.fieldLink RX5 48 "ShortEnough$Numbers" "count" "I", Cond.methodLink RX5 25 yX9_clear, Cond.instanceMethod yX9_clear, Cond.selects RX9 yX9_clear yX9_clear, Cond.code yX9_clear cX9_clear 1 none, Cond.fieldLink RX9 45 "ShortEnough$Task" "formats" "I", Cond.fieldLink RX9 49 "ShortEnough$Task" "castPrice" "I", Cond.fieldLink RX9 52 "ShortEnough$Numbers" "count" "I", Cond.fieldLink RX9 55 "ShortEnough$Numbers" "inputs" "I", Cond.methodLink RX5 30 yX10_open]
noncomputable def wsL_law_r15 : List Cond := [Cond.instanceMethod yX10_open, Cond.selects RX10 yX10_open yX10_open, Cond.code yX10_open cX10_open 3 none, Cond.methodLink RX10 31 Lib.Math.min.name, Cond.static Lib.Math.min.name, Cond.initialized "java/lang/Math", Cond.code Lib.Math.min.name Lib.Math.min.code 2 (some .int), Cond.methodLink RX10 37 Lib.Math.max.name, Cond.static Lib.Math.max.name, Cond.code Lib.Math.max.name Lib.Math.max.code 2 (some .int), Cond.fieldLink RX10 40 "ShortEnough$Words" "length" "I", Cond.fieldLink RX10 43 "ShortEnough$Words" "place" "I", Cond.fieldLink RX10 46 "ShortEnough$Words" "kind" "I", Cond.methodLink RX10 49 yX10_advance, Cond.instanceMethod yX10_advance, Cond.selects RX10 yX10_advance yX10_advance, Cond.code yX10_advance cX10_advance 5 none, Cond.fieldLink RX10 56 "ShortEnough$Words" "start" "I", Cond.fieldLink RX10 59 "ShortEnough$Words" "value" "I", Cond.fieldLink RX10 70 "ShortEnough$Words" "own" "I", Cond.methodLink RX10 52 yX10_kindOf, Cond.static yX10_kindOf, Cond.code yX10_kindOf cX10_kindOf 1 (some .int), Cond.methodLink RX10 62 yX10_addByte]
noncomputable def wsL_law_r16 : List Cond := [Cond.instanceMethod yX10_addByte, Cond.selects RX10 yX10_addByte yX10_addByte, Cond.code yX10_addByte cX10_addByte 3 none, Cond.methodLink RX10 66 yX10_findOwn, Cond.instanceMethod yX10_findOwn, Cond.selects RX10 yX10_findOwn yX10_findOwn, Cond.code yX10_findOwn cX10_findOwn 3 (some .int), Cond.methodLink RX5 37 yX5_readStatement, Cond.instanceMethod yX5_readStatement, Cond.selects RX5 yX5_readStatement yX5_readStatement, Cond.code yX5_readStatement cX5_readStatement 5 (some .boolean), Cond.fieldLink RX5 57 "ShortEnough$Words" "own" "I", Cond.fieldLink RX5 64 "ShortEnough$Words" "start" "I", Cond.methodLink RX5 60 yX5_startsStatement, Cond.static yX5_startsStatement, Cond.code yX5_startsStatement cX5_startsStatement 1 (some .boolean), Cond.methodLink RX5 53 yX5_stopAt, Cond.instanceMethod yX5_stopAt, Cond.selects RX5 yX5_stopAt yX5_stopAt, Cond.code yX5_stopAt cX5_stopAt 3 (some .boolean), Cond.methodLink RX5 67 yX5_isFull, Cond.static yX5_isFull, Cond.code yX5_isFull cX5_isFull 3 (some .boolean), Cond.methodLink RX5 70 yX10_advance]
noncomputable def wsL_law_r17 : List Cond := [Cond.methodLink RX5 73 yX5_readFormat, Cond.instanceMethod yX5_readFormat, Cond.selects RX5 yX5_readFormat yX5_readFormat, Cond.code yX5_readFormat cX5_readFormat 5 (some .boolean), Cond.fieldLink RX5 102 "ShortEnough$Parser" "got" "I", Cond.constant RX5 108 (1000000), Cond.constant RX5 113 (1000000000), Cond.methodLink RX5 99 yX5_readNewName, Cond.instanceMethod yX5_readNewName, Cond.selects RX5 yX5_readNewName yX5_readNewName, Cond.code yX5_readNewName cX5_readNewName 3 (some .boolean), Cond.fieldLink RX5 138 "ShortEnough$Words" "value" "I", Cond.methodLink RX5 167 yX10_isName, Cond.instanceMethod yX10_isName, Cond.selects RX10 yX10_isName yX10_isName, Cond.code yX10_isName cX10_isName 1 (some .boolean), Cond.methodLink RX5 155 yX9_findFormat, Cond.instanceMethod yX9_findFormat, Cond.selects RX9 yX9_findFormat yX9_findFormat, Cond.code yX9_findFormat cX9_findFormat 3 (some .int), Cond.methodLink RX5 141 yX4_find, Cond.instanceMethod yX4_find, Cond.selects RX4 yX4_find yX4_find, Cond.code yX4_find cX4_find 3 (some .int)]
noncomputable def wsL_law_r18 : List Cond := [Cond.fieldLink RX4 36 "ShortEnough$Numbers" "count" "I", Cond.methodLink RX5 105 yX5_readOwn, Cond.instanceMethod yX5_readOwn, Cond.selects RX5 yX5_readOwn yX5_readOwn, Cond.code yX5_readOwn cX5_readOwn 2 (some .boolean), Cond.methodLink RX5 152 yX10_isOwn, Cond.instanceMethod yX10_isOwn, Cond.selects RX10 yX10_isOwn yX10_isOwn, Cond.code yX10_isOwn cX10_isOwn 2 (some .boolean), Cond.methodLink RX5 109 yX5_readValue, Cond.instanceMethod yX5_readValue, Cond.selects RX5 yX5_readValue yX5_readValue, Cond.code yX5_readValue cX5_readValue 7 (some .boolean), Cond.methodLink RX5 149 yX10_isSign, Cond.instanceMethod yX10_isSign, Cond.selects RX10 yX10_isSign yX10_isSign, Cond.code yX10_isSign cX10_isSign 2 (some .boolean), Cond.methodLink RX5 114 yX9_addFormat, Cond.instanceMethod yX9_addFormat, Cond.selects RX9 yX9_addFormat yX9_addFormat, Cond.code yX9_addFormat cX9_addFormat 5 none, Cond.methodLink RX5 77 yX5_readCast, Cond.instanceMethod yX5_readCast, Cond.selects RX5 yX5_readCast yX5_readCast]
noncomputable def wsL_law_r19 : List Cond := [Cond.code yX5_readCast cX5_readCast 2 (some .boolean), Cond.fieldLink RX5 118 "ShortEnough$Task" "castPrice" "I", Cond.methodLink RX5 80 yX5_readBox, Cond.instanceMethod yX5_readBox, Cond.selects RX5 yX5_readBox yX5_readBox, Cond.code yX5_readBox cX5_readBox 4 (some .boolean), Cond.constant RX5 121 (-10000000), Cond.constant RX5 122 (10000000), Cond.methodLink RX5 123 yX4_prepare, Cond.instanceMethod yX4_prepare, Cond.selects RX4 yX4_prepare yX4_prepare, Cond.code yX4_prepare cX4_prepare 4 none, Cond.methodLink RX5 127 yX4_add, Cond.instanceMethod yX4_add, Cond.selects RX4 yX4_add yX4_add, Cond.code yX4_add cX4_add 3 none, Cond.methodLink RX4 44 Lib.Math.max.name, Cond.fieldLink RX4 50 "ShortEnough$Numbers" "inputs" "I", Cond.methodLink RX4 40 yX4_letsOf, Cond.instanceMethod yX4_letsOf, Cond.selects RX4 yX4_letsOf yX4_letsOf, Cond.code yX4_letsOf cX4_letsOf 3 (some .int), Cond.methodLink RX5 83 yX5_readLet, Cond.instanceMethod yX5_readLet]
noncomputable def wsL_law_r20 : List Cond := [Cond.selects RX5 yX5_readLet yX5_readLet, Cond.code yX5_readLet cX5_readLet 4 (some .boolean), Cond.methodLink RX5 95 yX5_readSign, Cond.instanceMethod yX5_readSign, Cond.selects RX5 yX5_readSign yX5_readSign, Cond.code yX5_readSign cX5_readSign 2 (some .boolean), Cond.methodLink RX5 131 yX5_readWhat, Cond.instanceMethod yX5_readWhat, Cond.selects RX5 yX5_readWhat yX5_readWhat, Cond.code yX5_readWhat cX5_readWhat 4 (some .boolean), Cond.constant RX5 148 (-1000000), Cond.methodLink RX5 145 yX5_readKnown, Cond.instanceMethod yX5_readKnown, Cond.selects RX5 yX5_readKnown yX5_readKnown, Cond.code yX5_readKnown cX5_readKnown 2 (some .boolean), Cond.methodLink RX5 134 yX5_readOp, Cond.instanceMethod yX5_readOp, Cond.selects RX5 yX5_readOp yX5_readOp, Cond.code yX5_readOp cX5_readOp 1 (some .boolean), Cond.methodLink RX5 86 yX5_readFixed, Cond.instanceMethod yX5_readFixed, Cond.selects RX5 yX5_readFixed yX5_readFixed, Cond.code yX5_readFixed cX5_readFixed 3 (some .boolean), Cond.methodLink RX5 158 yX4_fix]
noncomputable def wsL_law_r21 : List Cond := [Cond.instanceMethod yX4_fix, Cond.selects RX4 yX4_fix yX4_fix, Cond.code yX4_fix cX4_fix 3 none, Cond.methodLink RX5 89 yX5_readGroup, Cond.instanceMethod yX5_readGroup, Cond.selects RX5 yX5_readGroup yX5_readGroup, Cond.code yX5_readGroup cX5_readGroup 4 (some .boolean), Cond.methodLink RX5 161 yX4_join, Cond.instanceMethod yX4_join, Cond.selects RX4 yX4_join yX4_join, Cond.code yX4_join cX4_join 5 none, Cond.methodLink RX5 92 yX5_readAnswer, Cond.instanceMethod yX5_readAnswer, Cond.selects RX5 yX5_readAnswer yX5_readAnswer, Cond.code yX5_readAnswer cX5_readAnswer 3 (some .boolean), Cond.methodLink RX5 164 yX4_allow, Cond.instanceMethod yX4_allow, Cond.selects RX4 yX4_allow yX4_allow, Cond.code yX4_allow cX4_allow 3 none, Cond.methodLink RX11 104 yX9_settle, Cond.instanceMethod yX9_settle, Cond.selects RX9 yX9_settle yX9_settle, Cond.code yX9_settle cX9_settle 1 none, Cond.methodLink RX9 58 yX2_gather]
noncomputable def wsL_law_r22 : List Cond := [Cond.instanceMethod yX2_gather, Cond.selects RX2 yX2_gather yX2_gather, Cond.code yX2_gather cX2_gather 3 none, Cond.fieldLink RX2 21 "ShortEnough$Groups" "count" "I", Cond.fieldLink RX2 25 "ShortEnough$Groups" "clash" "Z", Cond.fieldLink RX2 29 "ShortEnough$Numbers" "count" "I", Cond.fieldLink RX2 36 "ShortEnough$Numbers" "fixedAs" "[I", Cond.fieldLink RX2 41 "ShortEnough$Groups" "free" "I", Cond.methodLink RX2 32 yX2_earlierGroup, Cond.instanceMethod yX2_earlierGroup, Cond.selects RX2 yX2_earlierGroup yX2_earlierGroup, Cond.code yX2_earlierGroup cX2_earlierGroup 4 (some .int), Cond.fieldLink RX2 44 "ShortEnough$Numbers" "joined" "[I", Cond.methodLink RX2 37 yX2_fix, Cond.instanceMethod yX2_fix, Cond.selects RX2 yX2_fix yX2_fix, Cond.code yX2_fix cX2_fix 3 none, Cond.methodLink RX9 62 yX6_fill, Cond.instanceMethod yX6_fill, Cond.selects RX6 yX6_fill yX6_fill, Cond.code yX6_fill cX6_fill 7 none, Cond.fieldLink RX6 22 "ShortEnough$Numbers" "count" "I", Cond.constantLong RX6 43 (1000000000), Cond.methodLink RX6 28 yX6_lowest]
noncomputable def wsL_law_r23 : List Cond := [Cond.instanceMethod yX6_lowest, Cond.selects RX6 yX6_lowest yX6_lowest, Cond.code yX6_lowest cX6_lowest 8 (some .long), Cond.fieldLink RX6 72 "ShortEnough$Numbers" "op" "[I", Cond.methodLink RX6 57 Lib.MathLoose.min_long.x, Cond.static Lib.MathLoose.min_long.x, Cond.code Lib.MathLoose.min_long.x Lib.MathLoose.min_long.code 4 (some .long), Cond.methodLink RX6 76 yX6_lowOf, Cond.instanceMethod yX6_lowOf, Cond.selects RX6 yX6_lowOf yX6_lowOf, Cond.code yX6_lowOf cX6_lowOf 5 (some .long), Cond.methodLink RX6 45 yX4_madeOf, Cond.instanceMethod yX4_madeOf, Cond.selects RX4 yX4_madeOf yX4_madeOf, Cond.code yX4_madeOf cX4_madeOf 3 (some .int), Cond.methodLink RX6 69 yX4_amountOf, Cond.instanceMethod yX4_amountOf, Cond.selects RX4 yX4_amountOf yX4_amountOf, Cond.code yX4_amountOf cX4_amountOf 3 (some .long), Cond.methodLink RX6 80 yX6_highOf, Cond.instanceMethod yX6_highOf, Cond.selects RX6 yX6_highOf yX6_highOf, Cond.code yX6_highOf cX6_highOf 5 (some .long), Cond.static yX11_apply]
noncomputable def wsL_law_r24 : List Cond := [Cond.code yX11_apply cX11_apply 7 (some .long), Cond.constantLong RX11 389 (1000), Cond.methodLink RX11 395 Lib.MathLoose.min_long.x, Cond.methodLink RX11 373 Lib.MathLoose.max_long.x, Cond.static Lib.MathLoose.max_long.x, Cond.code Lib.MathLoose.max_long.x Lib.MathLoose.max_long.code 4 (some .long), Cond.methodLink RX11 391 yX11_nearest, Cond.static yX11_nearest, Cond.code yX11_nearest cX11_nearest 8 (some .long), Cond.constantLong RX11 384 (2), Cond.methodLink RX11 386 yJ9_floorDiv_f86c9, Cond.static yJ9_floorDiv_f86c9, Cond.initialized RJ9, Cond.code yJ9_floorDiv_f86c9 cJ9_floorDiv_f86c9 6 (some .long), Cond.methodLink RX6 87 yX6_endProduct, Cond.instanceMethod yX6_endProduct, Cond.selects RX6 yX6_endProduct yX6_endProduct, Cond.code yX6_endProduct cX6_endProduct 10 (some .long), Cond.methodLink RX6 63 Lib.MathLoose.max_long.x, Cond.methodLink RX6 32 yX6_held, Cond.static yX6_held, Cond.code yX6_held cX6_held 2 (some .long), Cond.constantLong RX6 53 (-2000000000), Cond.constantLong RX6 55 (2000000000)]
noncomputable def wsL_law_r25 : List Cond := [Cond.methodLink RX6 36 yX6_highest, Cond.instanceMethod yX6_highest, Cond.selects RX6 yX6_highest yX6_highest, Cond.code yX6_highest cX6_highest 8 (some .long), Cond.methodLink RX6 39 yX6_amountOf, Cond.instanceMethod yX6_amountOf, Cond.selects RX6 yX6_amountOf yX6_amountOf, Cond.code yX6_amountOf cX6_amountOf 2 (some .long), Cond.methodLink RX6 66 Lib.MathLoose.abs_long.x, Cond.static Lib.MathLoose.abs_long.x, Cond.code Lib.MathLoose.abs_long.x Lib.MathLoose.abs_long.code 2 (some .long), Cond.methodLink RX6 49 yX6_isWide, Cond.instanceMethod yX6_isWide, Cond.selects RX6 yX6_isWide yX6_isWide, Cond.code yX6_isWide cX6_isWide 2 (some .boolean), Cond.methodLink RX11 111 yX2_fillFree, Cond.instanceMethod yX2_fillFree, Cond.selects RX2 yX2_fillFree yX2_fillFree, Cond.code yX2_fillFree cX2_fillFree 4 none, Cond.methodLink RX11 117 yX1_forget, Cond.instanceMethod yX1_forget, Cond.selects RX1 yX1_forget yX1_forget, Cond.code yX1_forget cX1_forget 1 none, Cond.fieldLink RX1 44 "ShortEnough$FullSearch" "ready" "Z"]
noncomputable def wsL_law_r26 : List Cond := [Cond.methodLink RX11 120 yX3_forget, Cond.instanceMethod yX3_forget, Cond.selects RX3 yX3_forget yX3_forget, Cond.code yX3_forget cX3_forget 1 none, Cond.fieldLink RX3 45 "ShortEnough$LocalSearch" "ready" "Z", Cond.methodLink RX11 121 yX0_forget, Cond.instanceMethod yX0_forget, Cond.selects RX0 yX0_forget yX0_forget, Cond.code yX0_forget cX0_forget 1 none, Cond.methodLink RL 27 yX12_task, Cond.instanceMethod yX12_task, Cond.selects RX12 yX12_task yX12_task, Cond.code yX12_task cX12_task 2 (some .int), Cond.methodLink RX12 231 yX12_goesWell, Cond.instanceMethod yX12_goesWell, Cond.selects RX12 yX12_goesWell yX12_goesWell, Cond.code yX12_goesWell cX12_goesWell 1 (some .boolean), Cond.methodLink RX12 235 yX12_here, Cond.instanceMethod yX12_here, Cond.selects RX12 yX12_here yX12_here, Cond.code yX12_here cX12_here 1 (some .int), Cond.methodLink RX12 228 yX12_byteAt, Cond.instanceMethod yX12_byteAt, Cond.selects RX12 yX12_byteAt yX12_byteAt]
noncomputable def wsL_law_r27 : List Cond := [Cond.code yX12_byteAt cX12_byteAt 2 (some .int), Cond.methodLink RX12 346 yX12_readsStatement, Cond.instanceMethod yX12_readsStatement, Cond.selects RX12 yX12_readsStatement yX12_readsStatement, Cond.code yX12_readsStatement cX12_readsStatement 6 none, Cond.constantLong RX12 296 (999), Cond.methodLink RX12 249 yX12_word, Cond.instanceMethod yX12_word, Cond.selects RX12 yX12_word yX12_word, Cond.code yX12_word cX12_word 1 none, Cond.methodLink RX12 243 yX12_isSmall, Cond.instanceMethod yX12_isSmall, Cond.selects RX12 yX12_isSmall yX12_isSmall, Cond.code yX12_isSmall cX12_isSmall 2 (some .boolean), Cond.methodLink RX12 246 yX12_isDigit, Cond.instanceMethod yX12_isDigit, Cond.selects RX12 yX12_isDigit yX12_isDigit, Cond.code yX12_isDigit cX12_isDigit 2 (some .boolean), Cond.methodLink RX12 239 yX12_faults, Cond.instanceMethod yX12_faults, Cond.selects RX12 yX12_faults yX12_faults, Cond.code yX12_faults cX12_faults 3 none, Cond.methodLink RX12 252 yX12_own, Cond.instanceMethod yX12_own]
noncomputable def wsL_law_r28 : List Cond := [Cond.selects RX12 yX12_own yX12_own, Cond.code yX12_own cX12_own 4 (some .int), Cond.methodLink RX12 325 yX12_isBeginning, Cond.static yX12_isBeginning, Cond.code yX12_isBeginning cX12_isBeginning 1 (some .boolean), Cond.methodLink RX12 328 yX12_readsFormat, Cond.instanceMethod yX12_readsFormat, Cond.selects RX12 yX12_readsFormat yX12_readsFormat, Cond.code yX12_readsFormat cX12_readsFormat 9 none, Cond.constantLong RX12 288 (1000000), Cond.constantLong RX12 294 (1000000000), Cond.methodLink RX12 282 yX12_newName, Cond.instanceMethod yX12_newName, Cond.selects RX12 yX12_newName yX12_newName, Cond.code yX12_newName cX12_newName 2 (some .int), Cond.methodLink RX12 273 yX12_name, Cond.instanceMethod yX12_name, Cond.selects RX12 yX12_name yX12_name, Cond.code yX12_name cX12_name 3 (some .int), Cond.methodLink RX12 276 yX12_formatNamed, Cond.instanceMethod yX12_formatNamed, Cond.selects RX12 yX12_formatNamed yX12_formatNamed, Cond.code yX12_formatNamed cX12_formatNamed 3 (some .int), Cond.methodLink RX12 267 yX12_f]
noncomputable def wsL_law_r29 : List Cond := [Cond.instanceMethod yX12_f, Cond.selects RX12 yX12_f yX12_f, Cond.code yX12_f cX12_f 2 (some .int), Cond.methodLink RX12 279 yX12_numberNamed, Cond.instanceMethod yX12_numberNamed, Cond.selects RX12 yX12_numberNamed yX12_numberNamed, Cond.code yX12_numberNamed cX12_numberNamed 3 (some .int), Cond.methodLink RX12 270 yX12_n, Cond.instanceMethod yX12_n, Cond.selects RX12 yX12_n yX12_n, Cond.code yX12_n cX12_n 2 (some .int), Cond.methodLink RX12 285 yX12_must, Cond.instanceMethod yX12_must, Cond.selects RX12 yX12_must yX12_must, Cond.code yX12_must cX12_must 2 none, Cond.methodLink RX12 290 yX12_number, Cond.instanceMethod yX12_number, Cond.selects RX12 yX12_number yX12_number, Cond.code yX12_number cX12_number 7 (some .long), Cond.methodLink RX12 259 yX12_digits, Cond.instanceMethod yX12_digits, Cond.selects RX12 yX12_digits yX12_digits, Cond.code yX12_digits cX12_digits 3 (some .long), Cond.constantLong RX12 255 (10)]
noncomputable def wsL_law_r30 : List Cond := [Cond.constantLong RX12 257 (48), Cond.methodLink RX12 263 yX12_isIn, Cond.static yX12_isIn, Cond.code yX12_isIn cX12_isIn 6 (some .boolean), Cond.methodLink RX12 331 yX12_readsInput, Cond.instanceMethod yX12_readsInput, Cond.selects RX12 yX12_readsInput yX12_readsInput, Cond.code yX12_readsInput cX12_readsInput 6 none, Cond.constantLong RX12 298 (-10000000), Cond.constantLong RX12 300 (10000000), Cond.methodLink RX12 302 yX12_signed, Cond.instanceMethod yX12_signed, Cond.selects RX12 yX12_signed yX12_signed, Cond.code yX12_signed cX12_signed 9 (some .long), Cond.methodLink RX12 305 yX12_newNumber, Cond.instanceMethod yX12_newNumber, Cond.selects RX12 yX12_newNumber yX12_newNumber, Cond.code yX12_newNumber cX12_newNumber 4 none, Cond.methodLink RX12 334 yX12_readsLet, Cond.instanceMethod yX12_readsLet, Cond.selects RX12 yX12_readsLet yX12_readsLet, Cond.code yX12_readsLet cX12_readsLet 10 none, Cond.methodLink RX12 313 yX12_mark, Cond.instanceMethod yX12_mark]
noncomputable def wsL_law_r31 : List Cond := [Cond.selects RX12 yX12_mark yX12_mark, Cond.code yX12_mark cX12_mark 2 none, Cond.methodLink RX12 316 yX12_readsWhat, Cond.instanceMethod yX12_readsWhat, Cond.selects RX12 yX12_readsWhat yX12_readsWhat, Cond.code yX12_readsWhat cX12_readsWhat 1 (some .int), Cond.constantLong RX12 308 (-1000000), Cond.methodLink RX12 310 yX12_toldNumber, Cond.instanceMethod yX12_toldNumber, Cond.selects RX12 yX12_toldNumber yX12_toldNumber, Cond.code yX12_toldNumber cX12_toldNumber 3 (some .int), Cond.methodLink RX12 319 yX12_readsOp, Cond.instanceMethod yX12_readsOp, Cond.selects RX12 yX12_readsOp yX12_readsOp, Cond.code yX12_readsOp cX12_readsOp 3 (some .int), Cond.methodLink RX12 337 yX12_readsFixed, Cond.instanceMethod yX12_readsFixed, Cond.selects RX12 yX12_readsFixed yX12_readsFixed, Cond.code yX12_readsFixed cX12_readsFixed 4 none, Cond.methodLink RX12 340 yX12_readsGroup, Cond.instanceMethod yX12_readsGroup, Cond.selects RX12 yX12_readsGroup yX12_readsGroup, Cond.code yX12_readsGroup cX12_readsGroup 7 none, Cond.methodLink RX12 322 yX12_lesser]
noncomputable def wsL_law_r32 : List Cond := [Cond.static yX12_lesser, Cond.code yX12_lesser cX12_lesser 4 (some .long), Cond.methodLink RX12 343 yX12_readsAnswer, Cond.instanceMethod yX12_readsAnswer, Cond.selects RX12 yX12_readsAnswer yX12_readsAnswer, Cond.code yX12_readsAnswer cX12_readsAnswer 4 none, Cond.methodLink RX12 349 yX12_copiesTask, Cond.instanceMethod yX12_copiesTask, Cond.selects RX12 yX12_copiesTask yX12_copiesTask, Cond.code yX12_copiesTask cX12_copiesTask 3 none, Cond.methodLink RX12 352 yX12_beginsChoice, Cond.instanceMethod yX12_beginsChoice, Cond.selects RX12 yX12_beginsChoice yX12_beginsChoice, Cond.code yX12_beginsChoice cX12_beginsChoice 3 none, Cond.methodLink RL 28 yX11_fault, Cond.instanceMethod yX11_fault, Cond.selects RX11 yX11_fault yX11_fault, Cond.code yX11_fault cX11_fault 2 (some .int), Cond.fieldLink RX11 131 "ShortEnough$Parser" "faultKind" "I", Cond.fieldLink RX11 134 "ShortEnough$Parser" "faultPlace" "I", Cond.methodLink RL 32 yX12_fault, Cond.instanceMethod yX12_fault, Cond.selects RX12 yX12_fault yX12_fault, Cond.code yX12_fault cX12_fault 2 (some .int)]
noncomputable def wsL_law_r33 : List Cond := [Cond.methodLink RL 33 yX11_has, Cond.instanceMethod yX11_has, Cond.selects RX11 yX11_has yX11_has, Cond.code yX11_has cX11_has 2 (some .int), Cond.fieldLink RX11 137 "ShortEnough$Task" "formats" "I", Cond.fieldLink RX11 140 "ShortEnough$Numbers" "inputs" "I", Cond.fieldLink RX11 146 "ShortEnough$Groups" "count" "I", Cond.fieldLink RX11 147 "ShortEnough$Groups" "free" "I", Cond.fieldLink RX11 150 "ShortEnough$Task" "castPrice" "I", Cond.methodLink RX11 143 yX4_countAnswers, Cond.instanceMethod yX4_countAnswers, Cond.selects RX4 yX4_countAnswers yX4_countAnswers, Cond.code yX4_countAnswers cX4_countAnswers 4 (some .int), Cond.methodLink RL 36 yX12_has, Cond.instanceMethod yX12_has, Cond.selects RX12 yX12_has yX12_has, Cond.code yX12_has cX12_has 2 (some .int), Cond.methodLink RX12 358 yX12_laysFree, Cond.instanceMethod yX12_laysFree, Cond.selects RX12 yX12_laysFree yX12_laysFree, Cond.code yX12_laysFree cX12_laysFree 2 none, Cond.methodLink RX12 355 yX12_isFree, Cond.instanceMethod yX12_isFree, Cond.selects RX12 yX12_isFree yX12_isFree]
noncomputable def wsL_law_r34 : List Cond := [Cond.code yX12_isFree cX12_isFree 3 (some .boolean), Cond.methodLink RX12 361 yX12_inputs, Cond.instanceMethod yX12_inputs, Cond.selects RX12 yX12_inputs yX12_inputs, Cond.code yX12_inputs cX12_inputs 3 (some .int), Cond.methodLink RX12 364 yX12_answers, Cond.instanceMethod yX12_answers, Cond.selects RX12 yX12_answers yX12_answers, Cond.code yX12_answers cX12_answers 3 (some .int), Cond.methodLink RX12 367 yX12_groups, Cond.instanceMethod yX12_groups, Cond.selects RX12 yX12_groups yX12_groups, Cond.code yX12_groups cX12_groups 3 (some .int), Cond.methodLink RL 37 yX11_letter, Cond.instanceMethod yX11_letter, Cond.selects RX11 yX11_letter yX11_letter, Cond.code yX11_letter cX11_letter 6 (some .int), Cond.fieldLink RX11 160 "ShortEnough$Task" "formatName" "[I", Cond.fieldLink RX11 163 "ShortEnough$Numbers" "name" "[I", Cond.methodLink RX11 153 yX9_hasFormat, Cond.instanceMethod yX9_hasFormat, Cond.selects RX9 yX9_hasFormat yX9_hasFormat, Cond.code yX9_hasFormat cX9_hasFormat 2 (some .boolean), Cond.methodLink RX11 157 yX9_hasNumber]
noncomputable def wsL_law_r35 : List Cond := [Cond.instanceMethod yX9_hasNumber, Cond.selects RX9 yX9_hasNumber yX9_hasNumber, Cond.code yX9_hasNumber cX9_hasNumber 2 (some .boolean), Cond.methodLink RX11 166 yX11_letterOf, Cond.static yX11_letterOf, Cond.code yX11_letterOf cX11_letterOf 2 (some .int), Cond.methodLink RL 41 yX12_letter, Cond.instanceMethod yX12_letter, Cond.selects RX12 yX12_letter yX12_letter, Cond.code yX12_letter cX12_letter 5 (some .int), Cond.constantLong RX12 376 (5), Cond.methodLink RX12 370 yX12_isFormat, Cond.instanceMethod yX12_isFormat, Cond.selects RX12 yX12_isFormat yX12_isFormat, Cond.code yX12_isFormat cX12_isFormat 2 (some .boolean), Cond.methodLink RX12 373 yX12_isNumber, Cond.instanceMethod yX12_isNumber, Cond.selects RX12 yX12_isNumber yX12_isNumber, Cond.code yX12_isNumber cX12_isNumber 2 (some .boolean), Cond.methodLink RL 42 yX11_format, Cond.instanceMethod yX11_format, Cond.selects RX11 yX11_format yX11_format, Cond.code yX11_format cX11_format 3 (some .int), Cond.fieldLink RX11 170 "ShortEnough$Task" "step" "[I"]
noncomputable def wsL_law_r36 : List Cond := [Cond.fieldLink RX11 173 "ShortEnough$Task" "most" "[I", Cond.fieldLink RX11 176 "ShortEnough$Task" "price" "[I", Cond.methodLink RL 46 yX12_format, Cond.instanceMethod yX12_format, Cond.selects RX12 yX12_format yX12_format, Cond.code yX12_format cX12_format 3 (some .int), Cond.methodLink RL 47 yX11_number, Cond.instanceMethod yX11_number, Cond.selects RX11 yX11_number yX11_number, Cond.code yX11_number cX11_number 3 (some .int), Cond.fieldLink RX11 179 "ShortEnough$Numbers" "op" "[I", Cond.fieldLink RX11 185 "ShortEnough$Groups" "of" "[I", Cond.fieldLink RX11 188 "ShortEnough$Numbers" "fixedAs" "[I", Cond.fieldLink RX11 191 "ShortEnough$Numbers" "allowed" "[I", Cond.methodLink RX11 182 yX4_madeOf, Cond.methodLink RL 50 yX12_number_, Cond.instanceMethod yX12_number_, Cond.selects RX12 yX12_number_ yX12_number_, Cond.code yX12_number_ cX12_number_ 3 (some .int), Cond.methodLink RX12 378 yX12_groupPlace, Cond.instanceMethod yX12_groupPlace, Cond.selects RX12 yX12_groupPlace yX12_groupPlace, Cond.code yX12_groupPlace cX12_groupPlace 4 (some .int), Cond.methodLink RL 51 yX11_told]
noncomputable def wsL_law_r37 : List Cond := [Cond.instanceMethod yX11_told, Cond.selects RX11 yX11_told yX11_told, Cond.code yX11_told cX11_told 3 (some .long), Cond.constantLong RX11 194 (-1000000000000000), Cond.methodLink RX11 196 yX4_amountOf, Cond.methodLink RL 55 yX12_told, Cond.instanceMethod yX12_told, Cond.selects RX12 yX12_told yX12_told, Cond.code yX12_told cX12_told 3 (some .long), Cond.constantLong RX12 381 (-1000000000000000), Cond.methodLink RL 56 yX11_range, Cond.instanceMethod yX11_range, Cond.selects RX11 yX11_range yX11_range, Cond.code yX11_range cX11_range 3 (some .long), Cond.fieldLink RX11 200 "ShortEnough$Task" "ranges" "LShortEnough$Ranges;", Cond.fieldLink RX11 203 "ShortEnough$Ranges" "wide" "[Z", Cond.fieldLink RX11 207 "ShortEnough$Ranges" "high" "[J", Cond.fieldLink RX11 211 "ShortEnough$Ranges" "low" "[J", Cond.methodLink RL 60 yX12_range, Cond.instanceMethod yX12_range, Cond.selects RX12 yX12_range yX12_range, Cond.code yX12_range cX12_range 4 (some .long), Cond.methodLink RX12 414 yX12_isGreatPart, Cond.instanceMethod yX12_isGreatPart]
noncomputable def wsL_law_r38 : List Cond := [Cond.selects RX12 yX12_isGreatPart yX12_isGreatPart, Cond.code yX12_isGreatPart cX12_isGreatPart 2 (some .boolean), Cond.methodLink RX12 417 yX12_laysRange, Cond.instanceMethod yX12_laysRange, Cond.selects RX12 yX12_laysRange yX12_laysRange, Cond.code yX12_laysRange cX12_laysRange 18 none, Cond.methodLink RX12 399 yX12_lowOf, Cond.instanceMethod yX12_lowOf, Cond.selects RX12 yX12_lowOf yX12_lowOf, Cond.code yX12_lowOf cX12_lowOf 4 (some .long), Cond.methodLink RX12 403 yX12_highOf, Cond.instanceMethod yX12_highOf, Cond.selects RX12 yX12_highOf yX12_highOf, Cond.code yX12_highOf cX12_highOf 4 (some .long), Cond.methodLink RX12 406 yX12_two, Cond.static yX12_two, Cond.code yX12_two cX12_two 7 (some .long), Cond.methodLink RX12 392 yX12_roundedProduct, Cond.static yX12_roundedProduct, Cond.code yX12_roundedProduct cX12_roundedProduct 6 (some .long), Cond.constantLong RX12 383 (2), Cond.constantLong RX12 388 (1000), Cond.constantLong RX12 390 (2000), Cond.methodLink RX12 385 yX12_floor]
noncomputable def wsL_law_r39 : List Cond := [Cond.static yX12_floor, Cond.code yX12_floor cX12_floor 6 (some .long), Cond.methodLink RX12 396 yX12_greater, Cond.static yX12_greater, Cond.code yX12_greater cX12_greater 4 (some .long), Cond.methodLink RX12 420 yX12_mostOf, Cond.instanceMethod yX12_mostOf, Cond.selects RX12 yX12_mostOf yX12_mostOf, Cond.code yX12_mostOf cX12_mostOf 2 (some .long), Cond.methodLink RX12 410 yX12_amount, Cond.static yX12_amount, Cond.code yX12_amount cX12_amount 2 (some .long), Cond.methodLink RL 61 yX11_uses, Cond.instanceMethod yX11_uses, Cond.selects RX11 yX11_uses yX11_uses, Cond.code yX11_uses cX11_uses 2 (some .int), Cond.methodLink RX11 214 yX4_madeFrom, Cond.instanceMethod yX4_madeFrom, Cond.selects RX4 yX4_madeFrom yX4_madeFrom, Cond.code yX4_madeFrom cX4_madeFrom 4 (some .int), Cond.methodLink RX4 53 yX4_madeOf, Cond.methodLink RX4 56 yX4_isAmong, Cond.static yX4_isAmong, Cond.code yX4_isAmong cX4_isAmong 3 (some .boolean)]
noncomputable def wsL_law_r40 : List Cond := [Cond.methodLink RL 64 yX12_uses, Cond.instanceMethod yX12_uses, Cond.selects RX12 yX12_uses yX12_uses, Cond.code yX12_uses cX12_uses 5 (some .int), Cond.methodLink RL 65 yX11_depth, Cond.instanceMethod yX11_depth, Cond.selects RX11 yX11_depth yX11_depth, Cond.code yX11_depth cX11_depth 2 (some .int), Cond.fieldLink RX11 217 "ShortEnough$Numbers" "lets" "[I", Cond.methodLink RL 68 yX12_depth, Cond.instanceMethod yX12_depth, Cond.selects RX12 yX12_depth yX12_depth, Cond.code yX12_depth cX12_depth 5 (some .int), Cond.methodLink RX12 424 yX12_deepOf, Cond.instanceMethod yX12_deepOf, Cond.selects RX12 yX12_deepOf yX12_deepOf, Cond.code yX12_deepOf cX12_deepOf 2 (some .int), Cond.methodLink RL 69 yX11_chosen, Cond.instanceMethod yX11_chosen, Cond.selects RX11 yX11_chosen yX11_chosen, Cond.code yX11_chosen cX11_chosen 2 (some .int), Cond.methodLink RX11 220 yX9_hasChoice, Cond.instanceMethod yX9_hasChoice, Cond.selects RX9 yX9_hasChoice yX9_hasChoice]
noncomputable def wsL_law_r41 : List Cond := [Cond.code yX9_hasChoice cX9_hasChoice 1 (some .boolean), Cond.fieldLink RX9 66 "ShortEnough$Groups" "clash" "Z", Cond.methodLink RX11 224 yX9_formatOf, Cond.instanceMethod yX9_formatOf, Cond.selects RX9 yX9_formatOf yX9_formatOf, Cond.code yX9_formatOf cX9_formatOf 4 (some .int), Cond.fieldLink RX9 80 "ShortEnough$Groups" "of" "[I", Cond.methodLink RL 72 yX12_chosen, Cond.instanceMethod yX12_chosen, Cond.selects RX12 yX12_chosen yX12_chosen, Cond.code yX12_chosen cX12_chosen 2 (some .int), Cond.methodLink RL 73 yX11_choose, Cond.instanceMethod yX11_choose, Cond.selects RX11 yX11_choose yX11_choose, Cond.code yX11_choose cX11_choose 5 (some .int), Cond.methodLink RX11 228 yX9_isFree, Cond.instanceMethod yX9_isFree, Cond.selects RX9 yX9_isFree yX9_isFree, Cond.code yX9_isFree cX9_isFree 2 (some .boolean), Cond.methodLink RX9 70 yX9_hasNumber, Cond.methodLink RX9 83 yX2_isFree, Cond.instanceMethod yX2_isFree, Cond.selects RX2 yX2_isFree yX2_isFree, Cond.code yX2_isFree cX2_isFree 2 (some .boolean)]
noncomputable def wsL_law_r42 : List Cond := [Cond.methodLink RL 76 yX12_choose, Cond.instanceMethod yX12_choose, Cond.selects RX12 yX12_choose yX12_choose, Cond.code yX12_choose cX12_choose 5 (some .int), Cond.methodLink RL 77 yX11_cost, Cond.instanceMethod yX11_cost, Cond.selects RX11 yX11_cost yX11_cost, Cond.code yX11_cost cX11_cost 1 (some .int), Cond.methodLink RX11 231 yX9_priceOf, Cond.instanceMethod yX9_priceOf, Cond.selects RX9 yX9_priceOf yX9_priceOf, Cond.code yX9_priceOf cX9_priceOf 5 (some .int), Cond.methodLink RX9 94 yX9_castsOf, Cond.instanceMethod yX9_castsOf, Cond.selects RX9 yX9_castsOf yX9_castsOf, Cond.code yX9_castsOf cX9_castsOf 6 (some .int), Cond.methodLink RX9 86 yX4_madeOf, Cond.methodLink RX9 90 yX9_formatOf, Cond.methodLink RX9 98 yX9_hasFormat, Cond.methodLink RL 80 yX12_cost, Cond.instanceMethod yX12_cost, Cond.selects RX12 yX12_cost yX12_cost, Cond.code yX12_cost cX12_cost 1 (some .int), Cond.methodLink RX12 446 yX12_isThere]
noncomputable def wsL_law_r43 : List Cond := [Cond.instanceMethod yX12_isThere, Cond.selects RX12 yX12_isThere yX12_isThere, Cond.code yX12_isThere cX12_isThere 1 (some .boolean), Cond.methodLink RX12 440 yX12_triesHand, Cond.instanceMethod yX12_triesHand, Cond.selects RX12 yX12_triesHand yX12_triesHand, Cond.code yX12_triesHand cX12_triesHand 2 none, Cond.methodLink RX12 449 yX12_costTried, Cond.instanceMethod yX12_costTried, Cond.selects RX12 yX12_costTried yX12_costTried, Cond.code yX12_costTried cX12_costTried 3 (some .int), Cond.methodLink RX12 437 yX12_castsTried, Cond.instanceMethod yX12_castsTried, Cond.selects RX12 yX12_castsTried yX12_castsTried, Cond.code yX12_castsTried cX12_castsTried 3 (some .int), Cond.methodLink RX12 433 yX12_isCast, Cond.instanceMethod yX12_isCast, Cond.selects RX12 yX12_isCast yX12_isCast, Cond.code yX12_isCast cX12_isCast 3 (some .boolean), Cond.methodLink RL 81 yX11_casts, Cond.instanceMethod yX11_casts, Cond.selects RX11 yX11_casts yX11_casts, Cond.code yX11_casts cX11_casts 1 (some .int), Cond.methodLink RX11 235 yX9_castsOf]
noncomputable def wsL_law_r44 : List Cond := [Cond.methodLink RL 84 yX12_casts, Cond.instanceMethod yX12_casts, Cond.selects RX12 yX12_casts yX12_casts, Cond.code yX12_casts cX12_casts 1 (some .int), Cond.methodLink RL 85 yX11_fails, Cond.instanceMethod yX11_fails, Cond.selects RX11 yX11_fails yX11_fails, Cond.code yX11_fails cX11_fails 1 (some .int), Cond.fieldLink RX11 242 "ShortEnough$Reckoning" "failsAt" "I", Cond.methodLink RX11 238 yX7_reckon, Cond.instanceMethod yX7_reckon, Cond.selects RX7 yX7_reckon yX7_reckon, Cond.code yX7_reckon cX7_reckon 6 (some .boolean), Cond.fieldLink RX7 15 "ShortEnough$Reckoning" "failsAt" "I", Cond.fieldLink RX7 19 "ShortEnough$Reckoning" "reason" "I", Cond.fieldLink RX7 22 "ShortEnough$Task" "numbers" "LShortEnough$Numbers;", Cond.fieldLink RX7 28 "ShortEnough$Numbers" "count" "I", Cond.fieldLink RX7 55 "ShortEnough$Numbers" "allowed" "[I", Cond.methodLink RX7 33 yX7_errorOf, Cond.instanceMethod yX7_errorOf, Cond.selects RX7 yX7_errorOf yX7_errorOf, Cond.code yX7_errorOf cX7_errorOf 17 (some .long), Cond.fieldLink RX7 62 "ShortEnough$Numbers" "op" "[I", Cond.methodLink RX7 69 Lib.MathLoose.max_long.x]
noncomputable def wsL_law_r45 : List Cond := [Cond.constantLong RX7 79 (999), Cond.constantLong RX7 81 (1000), Cond.methodLink RX7 37 yX9_formatOf, Cond.methodLink RX7 59 yX9_stepOf, Cond.instanceMethod yX9_stepOf, Cond.selects RX9 yX9_stepOf yX9_stepOf, Cond.code yX9_stepOf cX9_stepOf 2 (some .int), Cond.methodLink RX7 65 yX7_errorBehindCast, Cond.instanceMethod yX7_errorBehindCast, Cond.selects RX7 yX7_errorBehindCast yX7_errorBehindCast, Cond.code yX7_errorBehindCast cX7_errorBehindCast 10 (some .long), Cond.methodLink RX7 83 yX4_madeOf, Cond.methodLink RX7 87 yX4_amountOf, Cond.static yX11_divides, Cond.code yX11_divides cX11_divides 4 (some .boolean), Cond.methodLink RX7 75 yX6_amountOfWhat, Cond.instanceMethod yX6_amountOfWhat, Cond.selects RX6 yX6_amountOfWhat yX6_amountOfWhat, Cond.code yX6_amountOfWhat cX6_amountOfWhat 5 (some .long), Cond.methodLink RX7 41 yX9_mostOf, Cond.instanceMethod yX9_mostOf, Cond.selects RX9 yX9_mostOf yX9_mostOf, Cond.code yX9_mostOf cX9_mostOf 2 (some .int), Cond.methodLink RX7 45 yX6_amountOf]
noncomputable def wsL_law_r46 : List Cond := [Cond.methodLink RX7 51 yX9_isAnswer, Cond.instanceMethod yX9_isAnswer, Cond.selects RX9 yX9_isAnswer yX9_isAnswer, Cond.code yX9_isAnswer cX9_isAnswer 2 (some .boolean), Cond.fieldLink RX9 74 "ShortEnough$Numbers" "allowed" "[I", Cond.methodLink RL 88 yX12_fails, Cond.instanceMethod yX12_fails, Cond.selects RX12 yX12_fails yX12_fails, Cond.code yX12_fails cX12_fails 1 (some .int), Cond.methodLink RX12 452 yX12_handPasses, Cond.instanceMethod yX12_handPasses, Cond.selects RX12 yX12_handPasses yX12_handPasses, Cond.code yX12_handPasses cX12_handPasses 1 (some .boolean), Cond.methodLink RX12 443 yX12_passes, Cond.instanceMethod yX12_passes, Cond.selects RX12 yX12_passes yX12_passes, Cond.code yX12_passes cX12_passes 2 (some .boolean), Cond.methodLink RX12 430 yX12_laysError, Cond.instanceMethod yX12_laysError, Cond.selects RX12 yX12_laysError yX12_laysError, Cond.code yX12_laysError cX12_laysError 12 none, Cond.methodLink RX12 427 yX12_castError, Cond.instanceMethod yX12_castError, Cond.selects RX12 yX12_castError yX12_castError]
noncomputable def wsL_law_r47 : List Cond := [Cond.code yX12_castError cX12_castError 6 (some .long), Cond.methodLink RL 89 yX11_why, Cond.instanceMethod yX11_why, Cond.selects RX11 yX11_why yX11_why, Cond.code yX11_why cX11_why 1 (some .int), Cond.fieldLink RX11 245 "ShortEnough$Reckoning" "reason" "I", Cond.methodLink RL 92 yX12_why, Cond.instanceMethod yX12_why, Cond.selects RX12 yX12_why yX12_why, Cond.code yX12_why cX12_why 1 (some .int), Cond.methodLink RL 93 yX11_error, Cond.instanceMethod yX11_error, Cond.selects RX11 yX11_error yX11_error, Cond.code yX11_error cX11_error 3 (some .long), Cond.fieldLink RX11 248 "ShortEnough$Reckoning" "errors" "[J", Cond.methodLink RL 97 yX12_error, Cond.instanceMethod yX12_error, Cond.selects RX12 yX12_error yX12_error, Cond.code yX12_error cX12_error 3 (some .long), Cond.methodLink RL 98 yX11_slack, Cond.instanceMethod yX11_slack, Cond.selects RX11 yX11_slack yX11_slack, Cond.code yX11_slack cX11_slack 2 (some .long), Cond.methodLink RX11 251 yX9_isAnswer]
noncomputable def wsL_law_r48 : List Cond := [Cond.methodLink RX11 254 yX11_handPasses, Cond.instanceMethod yX11_handPasses, Cond.selects RX11 yX11_handPasses yX11_handPasses, Cond.code yX11_handPasses cX11_handPasses 1 (some .boolean), Cond.methodLink RL 101 yX12_slack, Cond.instanceMethod yX12_slack, Cond.selects RX12 yX12_slack yX12_slack, Cond.code yX12_slack cX12_slack 2 (some .long), Cond.methodLink RX12 455 yX12_isAnswer, Cond.instanceMethod yX12_isAnswer, Cond.selects RX12 yX12_isAnswer yX12_isAnswer, Cond.code yX12_isAnswer cX12_isAnswer 2 (some .boolean), Cond.methodLink RL 102 yX11_widest, Cond.instanceMethod yX11_widest, Cond.selects RX11 yX11_widest yX11_widest, Cond.code yX11_widest cX11_widest 6 (some .int), Cond.constant RX11 260 (10000000), Cond.methodLink RX11 257 yX9_isInput, Cond.instanceMethod yX9_isInput, Cond.selects RX9 yX9_isInput yX9_isInput, Cond.code yX9_isInput cX9_isInput 2 (some .boolean), Cond.fieldLink RX9 77 "ShortEnough$Numbers" "op" "[I", Cond.methodLink RX11 261 yX11_passesLonger, Cond.instanceMethod yX11_passesLonger]
noncomputable def wsL_law_r49 : List Cond := [Cond.selects RX11 yX11_passesLonger yX11_passesLonger, Cond.code yX11_passesLonger cX11_passesLonger 3 (some .boolean), Cond.methodLink RX11 377 yX6_fill, Cond.methodLink RL 105 yX12_widest, Cond.instanceMethod yX12_widest, Cond.selects RX12 yX12_widest yX12_widest, Cond.code yX12_widest cX12_widest 5 (some .int), Cond.constant RX12 458 (10000000), Cond.methodLink RL 106 yX11_blame, Cond.instanceMethod yX11_blame, Cond.selects RX11 yX11_blame yX11_blame, Cond.code yX11_blame cX11_blame 3 (some .long), Cond.methodLink RX11 265 yX11_copyChoice, Cond.static yX11_copyChoice, Cond.code yX11_copyChoice cX11_copyChoice 3 none, Cond.methodLink RX11 269 yX9_finestFormat, Cond.instanceMethod yX9_finestFormat, Cond.selects RX9 yX9_finestFormat yX9_finestFormat, Cond.code yX9_finestFormat cX9_finestFormat 3 (some .int), Cond.methodLink RL 109 yX12_blame, Cond.instanceMethod yX12_blame, Cond.selects RX12 yX12_blame yX12_blame, Cond.code yX12_blame cX12_blame 5 (some .long), Cond.methodLink RX12 459 yX12_finest]
noncomputable def wsL_law_r50 : List Cond := [Cond.instanceMethod yX12_finest, Cond.selects RX12 yX12_finest yX12_finest, Cond.code yX12_finest cX12_finest 3 (some .int), Cond.methodLink RX12 462 yX12_triesGroup, Cond.instanceMethod yX12_triesGroup, Cond.selects RX12 yX12_triesGroup yX12_triesGroup, Cond.code yX12_triesGroup cX12_triesGroup 4 none, Cond.methodLink RL 110 yX11_cheapest, Cond.instanceMethod yX11_cheapest, Cond.selects RX11 yX11_cheapest yX11_cheapest, Cond.code yX11_cheapest cX11_cheapest 2 (some .int), Cond.fieldLink RX11 277 "ShortEnough$FullSearch" "best" "I", Cond.fieldLink RX11 280 "ShortEnough$FullSearch" "bestPrice" "I", Cond.methodLink RX11 273 yX1_search, Cond.instanceMethod yX1_search, Cond.selects RX1 yX1_search yX1_search, Cond.code yX1_search cX1_search 2 (some .boolean), Cond.fieldLink RX1 48 "ShortEnough$Task" "numbers" "LShortEnough$Numbers;", Cond.fieldLink RX1 54 "ShortEnough$Numbers" "count" "I", Cond.fieldLink RX1 59 "ShortEnough$Task" "groups" "LShortEnough$Groups;", Cond.fieldLink RX1 63 "ShortEnough$Groups" "free" "I", Cond.fieldLink RX1 68 "ShortEnough$FullSearch" "many" "I", Cond.methodLink RX1 71 yX9_hasChoice, Cond.methodLink RX1 75 yX1_searchAll]
noncomputable def wsL_law_r51 : List Cond := [Cond.instanceMethod yX1_searchAll, Cond.selects RX1 yX1_searchAll yX1_searchAll, Cond.code yX1_searchAll cX1_searchAll 4 none, Cond.fieldLink RX1 79 "ShortEnough$Task" "formats" "I", Cond.fieldLink RX1 86 "ShortEnough$FullSearch" "answers" "I", Cond.fieldLink RX1 97 "ShortEnough$Task" "ranges" "LShortEnough$Ranges;", Cond.methodLink RX1 82 yX4_countAnswers, Cond.methodLink RX1 89 yX1_makeRoom, Cond.instanceMethod yX1_makeRoom, Cond.selects RX1 yX1_makeRoom yX1_makeRoom, Cond.code yX1_makeRoom cX1_makeRoom 2 none, Cond.methodLink RX1 93 yX1_unfold, Cond.static yX1_unfold, Cond.code yX1_unfold cX1_unfold 6 none, Cond.fieldLink RX1 113 "ShortEnough$Groups" "count" "I", Cond.fieldLink RX1 114 "ShortEnough$Groups" "fixedAs" "[I", Cond.methodLink RX1 101 yX7_reckon, Cond.methodLink RX1 105 yX9_priceOf, Cond.methodLink RX1 109 yX1_keep, Cond.instanceMethod yX1_keep, Cond.selects RX1 yX1_keep yX1_keep, Cond.code yX1_keep cX1_keep 6 none, Cond.fieldLink RX1 121 "ShortEnough$Reckoning" "errors" "[J", Cond.fieldLink RX1 124 "ShortEnough$FullSearch" "bestPrice" "I"]
noncomputable def wsL_law_r52 : List Cond := [Cond.methodLink RX1 117 yX9_isAnswer, Cond.methodLink RX11 283 yX1_unfold, Cond.methodLink RL 113 yX12_cheapest, Cond.instanceMethod yX12_cheapest, Cond.selects RX12 yX12_cheapest yX12_cheapest, Cond.code yX12_cheapest cX12_cheapest 3 (some .int), Cond.methodLink RX12 471 yX12_canSearch, Cond.instanceMethod yX12_canSearch, Cond.selects RX12 yX12_canSearch yX12_canSearch, Cond.code yX12_canSearch cX12_canSearch 1 (some .boolean), Cond.methodLink RX12 474 yX12_cheapestChoice, Cond.instanceMethod yX12_cheapestChoice, Cond.selects RX12 yX12_cheapestChoice yX12_cheapestChoice, Cond.code yX12_cheapestChoice cX12_cheapestChoice 6 (some .int), Cond.methodLink RX12 465 yX12_allChoices, Cond.instanceMethod yX12_allChoices, Cond.selects RX12 yX12_allChoices yX12_allChoices, Cond.code yX12_allChoices cX12_allChoices 3 (some .int), Cond.methodLink RX12 468 yX12_triesChoice, Cond.instanceMethod yX12_triesChoice, Cond.selects RX12 yX12_triesChoice yX12_triesChoice, Cond.code yX12_triesChoice cX12_triesChoice 4 none, Cond.methodLink RL 114 yX11_passing, Cond.instanceMethod yX11_passing]
noncomputable def wsL_law_r53 : List Cond := [Cond.selects RX11 yX11_passing yX11_passing, Cond.code yX11_passing cX11_passing 1 (some .int), Cond.fieldLink RX11 287 "ShortEnough$FullSearch" "many" "I", Cond.methodLink RL 117 yX12_passing, Cond.instanceMethod yX12_passing, Cond.selects RX12 yX12_passing yX12_passing, Cond.code yX12_passing cX12_passing 4 (some .int), Cond.methodLink RL 118 yX11_halves, Cond.instanceMethod yX11_halves, Cond.selects RX11 yX11_halves yX11_halves, Cond.code yX11_halves cX11_halves 2 (some .int), Cond.fieldLink RX11 293 "ShortEnough$LocalSearch" "tries" "I", Cond.fieldLink RX11 296 "ShortEnough$LocalSearch" "price" "I", Cond.fieldLink RX11 298 "ShortEnough$LocalSearch" "row" "[I", Cond.methodLink RX11 290 yX3_goByHalves, Cond.instanceMethod yX3_goByHalves, Cond.selects RX3 yX3_goByHalves yX3_goByHalves, Cond.code yX3_goByHalves cX3_goByHalves 4 (some .boolean), Cond.fieldLink RX3 55 "ShortEnough$LocalSearch" "started" "Z", Cond.fieldLink RX3 62 "ShortEnough$Task" "groups" "LShortEnough$Groups;", Cond.fieldLink RX3 72 "ShortEnough$LocalSearch" "tries" "I", Cond.fieldLink RX3 75 "ShortEnough$Task" "ranges" "LShortEnough$Ranges;", Cond.fieldLink RX3 87 "ShortEnough$LocalSearch" "price" "I", Cond.fieldLink RX3 90 "ShortEnough$Task" "formats" "I"]
noncomputable def wsL_law_r54 : List Cond := [Cond.methodLink RX3 49 yX9_hasChoice, Cond.methodLink RX3 58 yX9_finestFormat, Cond.methodLink RX3 66 yX2_fillFree, Cond.methodLink RX3 79 yX7_reckon, Cond.methodLink RX3 83 yX9_priceOf, Cond.methodLink RX3 93 yX3_halveWith, Cond.instanceMethod yX3_halveWith, Cond.selects RX3 yX3_halveWith yX3_halveWith, Cond.code yX3_halveWith cX3_halveWith 9 none, Cond.fieldLink RX3 101 "ShortEnough$LocalSearch" "parts" "I", Cond.methodLink RX3 97 yX3_findUnchanged, Cond.instanceMethod yX3_findUnchanged, Cond.selects RX3 yX3_findUnchanged yX3_findUnchanged, Cond.code yX3_findUnchanged cX3_findUnchanged 4 (some .int), Cond.fieldLink RX3 112 "ShortEnough$Groups" "count" "I", Cond.fieldLink RX3 115 "ShortEnough$Groups" "fixedAs" "[I", Cond.methodLink RX3 104 yX3_addPart, Cond.instanceMethod yX3_addPart, Cond.selects RX3 yX3_addPart yX3_addPart, Cond.code yX3_addPart cX3_addPart 3 none, Cond.methodLink RX3 108 yX3_changePart, Cond.instanceMethod yX3_changePart, Cond.selects RX3 yX3_changePart yX3_changePart, Cond.code yX3_changePart cX3_changePart 8 (some .boolean)]
noncomputable def wsL_law_r55 : List Cond := [Cond.methodLink RX3 118 yX3_setPart, Cond.instanceMethod yX3_setPart, Cond.selects RX3 yX3_setPart yX3_setPart, Cond.code yX3_setPart cX3_setPart 5 none, Cond.methodLink RL 121 yX12_halves, Cond.instanceMethod yX12_halves, Cond.selects RX12 yX12_halves yX12_halves, Cond.code yX12_halves cX12_halves 2 (some .int), Cond.methodLink RX12 487 yX12_halve, Cond.instanceMethod yX12_halve, Cond.selects RX12 yX12_halve yX12_halve, Cond.code yX12_halve cX12_halve 3 (some .boolean), Cond.methodLink RX12 477 yX12_keepsTried, Cond.instanceMethod yX12_keepsTried, Cond.selects RX12 yX12_keepsTried yX12_keepsTried, Cond.code yX12_keepsTried cX12_keepsTried 2 none, Cond.methodLink RX12 484 yX12_halvesBy, Cond.instanceMethod yX12_halvesBy, Cond.selects RX12 yX12_halvesBy yX12_halvesBy, Cond.code yX12_halvesBy cX12_halvesBy 7 none, Cond.methodLink RX12 480 yX12_isBetter, Cond.instanceMethod yX12_isBetter, Cond.selects RX12 yX12_isBetter yX12_isBetter, Cond.code yX12_isBetter cX12_isBetter 5 (some .boolean)]
noncomputable def wsL_law_r56 : List Cond := [Cond.methodLink RL 122 yX11_single, Cond.instanceMethod yX11_single, Cond.selects RX11 yX11_single yX11_single, Cond.code yX11_single cX11_single 2 (some .int), Cond.fieldLink RX11 305 "ShortEnough$LocalSearch" "passed" "I", Cond.fieldLink RX11 308 "ShortEnough$LocalSearch" "cheaper" "I", Cond.fieldLink RX11 311 "ShortEnough$LocalSearch" "bestGroup" "I", Cond.fieldLink RX11 317 "ShortEnough$LocalSearch" "bestFormat" "I", Cond.methodLink RX11 301 yX3_lookAround, Cond.instanceMethod yX3_lookAround, Cond.selects RX3 yX3_lookAround yX3_lookAround, Cond.code yX3_lookAround cX3_lookAround 8 none, Cond.fieldLink RX3 122 "ShortEnough$LocalSearch" "passed" "I", Cond.fieldLink RX3 125 "ShortEnough$LocalSearch" "cheaper" "I", Cond.methodLink RX11 314 yX2_leaderOf, Cond.instanceMethod yX2_leaderOf, Cond.selects RX2 yX2_leaderOf yX2_leaderOf, Cond.code yX2_leaderOf cX2_leaderOf 2 (some .int), Cond.methodLink RL 125 yX12_single, Cond.instanceMethod yX12_single, Cond.selects RX12 yX12_single yX12_single, Cond.code yX12_single cX12_single 2 (some .int), Cond.constantLong RX12 490 (3), Cond.methodLink RX12 492 yX12_laysSingle]
noncomputable def wsL_law_r57 : List Cond := [Cond.instanceMethod yX12_laysSingle, Cond.selects RX12 yX12_laysSingle yX12_laysSingle, Cond.code yX12_laysSingle cX12_laysSingle 6 none, Cond.methodLink RL 126 yX11_take, Cond.instanceMethod yX11_take, Cond.selects RX11 yX11_take yX11_take, Cond.code yX11_take cX11_take 3 (some .int), Cond.methodLink RX11 320 yX11_takeCheapest, Cond.instanceMethod yX11_takeCheapest, Cond.selects RX11 yX11_takeCheapest yX11_takeCheapest, Cond.code yX11_takeCheapest cX11_takeCheapest 1 (some .boolean), Cond.methodLink RX11 323 yX11_takeSingle, Cond.instanceMethod yX11_takeSingle, Cond.selects RX11 yX11_takeSingle yX11_takeSingle, Cond.code yX11_takeSingle cX11_takeSingle 1 (some .boolean), Cond.methodLink RX11 381 yX2_isFree, Cond.methodLink RL 129 yX12_take, Cond.instanceMethod yX12_take, Cond.selects RX12 yX12_take yX12_take, Cond.code yX12_take cX12_take 2 (some .int), Cond.methodLink RX12 495 yX12_canTake, Cond.instanceMethod yX12_canTake, Cond.selects RX12 yX12_canTake yX12_canTake, Cond.code yX12_canTake cX12_canTake 4 (some .boolean)]
noncomputable def wsL_law_r58 : List Cond := [Cond.methodLink RX12 498 yX12_takesTried, Cond.instanceMethod yX12_takesTried, Cond.selects RX12 yX12_takesTried yX12_takesTried, Cond.code yX12_takesTried cX12_takesTried 2 none, Cond.methodLink RL 130 yX11_front, Cond.instanceMethod yX11_front, Cond.selects RX11 yX11_front yX11_front, Cond.code yX11_front cX11_front 4 (some .long), Cond.fieldLink RX11 330 "ShortEnough$FullSearch" "frontSize" "I", Cond.fieldLink RX11 333 "ShortEnough$FullSearch" "frontPrice" "[I", Cond.fieldLink RX11 336 "ShortEnough$FullSearch" "frontError" "[I", Cond.fieldLink RX11 339 "ShortEnough$FullSearch" "frontMany" "[I", Cond.methodLink RX11 326 yX1_drawFront, Cond.instanceMethod yX1_drawFront, Cond.selects RX1 yX1_drawFront yX1_drawFront, Cond.code yX1_drawFront cX1_drawFront 7 none, Cond.fieldLink RX1 134 "ShortEnough$FullSearch" "frontSize" "I", Cond.constant RX1 127 (1000001), Cond.methodLink RX1 137 yX1_cheapestBelow, Cond.instanceMethod yX1_cheapestBelow, Cond.selects RX1 yX1_cheapestBelow yX1_cheapestBelow, Cond.code yX1_cheapestBelow cX1_cheapestBelow 6 (some .int), Cond.methodLink RX1 130 yX1_errorAt, Cond.instanceMethod yX1_errorAt]
noncomputable def wsL_law_r59 : List Cond := [Cond.selects RX1 yX1_errorAt yX1_errorAt, Cond.code yX1_errorAt cX1_errorAt 4 (some .int), Cond.methodLink RX1 140 yX1_countAlike, Cond.instanceMethod yX1_countAlike, Cond.selects RX1 yX1_countAlike yX1_countAlike, Cond.code yX1_countAlike cX1_countAlike 6 (some .int), Cond.methodLink RL 134 yX12_front, Cond.instanceMethod yX12_front, Cond.selects RX12 yX12_front yX12_front, Cond.code yX12_front cX12_front 4 (some .long), Cond.methodLink RX12 505 yX12_laysFront, Cond.instanceMethod yX12_laysFront, Cond.selects RX12 yX12_laysFront yX12_laysFront, Cond.code yX12_laysFront cX12_laysFront 5 none, Cond.methodLink RX12 501 yX12_laysCouple, Cond.instanceMethod yX12_laysCouple, Cond.selects RX12 yX12_laysCouple yX12_laysCouple, Cond.code yX12_laysCouple cX12_laysCouple 6 none, Cond.methodLink RL 135 yX11_least, Cond.instanceMethod yX11_least, Cond.selects RX11 yX11_least yX11_least, Cond.code yX11_least cX11_least 3 (some .long), Cond.methodLink RX11 342 yX1_leastWithin, Cond.instanceMethod yX1_leastWithin]
noncomputable def wsL_law_r60 : List Cond := [Cond.selects RX1 yX1_leastWithin yX1_leastWithin, Cond.code yX1_leastWithin cX1_leastWithin 8 (some .long), Cond.constantLong RX1 128 (-1000000000000000), Cond.methodLink RL 138 yX12_least, Cond.instanceMethod yX12_least, Cond.selects RX12 yX12_least yX12_least, Cond.code yX12_least cX12_least 7 (some .long), Cond.methodLink RL 139 yX11_certificate, Cond.instanceMethod yX11_certificate, Cond.selects RX11 yX11_certificate yX11_certificate, Cond.code yX11_certificate cX11_certificate 4 (some .int), Cond.methodLink RX11 346 yX11_byteOf, Cond.static yX11_byteOf, Cond.code yX11_byteOf cX11_byteOf 3 (some .int), Cond.constantLong RX11 382 (255), Cond.methodLink RL 142 yX12_certificate, Cond.instanceMethod yX12_certificate, Cond.selects RX12 yX12_certificate yX12_certificate, Cond.code yX12_certificate cX12_certificate 4 (some .int), Cond.methodLink RX12 510 yX12_byteOf, Cond.static yX12_byteOf, Cond.code yX12_byteOf cX12_byteOf 3 (some .int), Cond.constantLong RX12 508 (255), Cond.methodLink RL 143 yX11_check]
noncomputable def wsL_law_r61 : List Cond := [Cond.instanceMethod yX11_check, Cond.selects RX11 yX11_check yX11_check, Cond.code yX11_check cX11_check 2 (some .boolean), Cond.methodLink RX11 350 yX0_holds, Cond.instanceMethod yX0_holds, Cond.selects RX0 yX0_holds yX0_holds, Cond.code yX0_holds cX0_holds 8 (some .boolean), Cond.fieldLink RX0 39 "ShortEnough$Task" "numbers" "LShortEnough$Numbers;", Cond.fieldLink RX0 45 "ShortEnough$Numbers" "count" "I", Cond.fieldLink RX0 50 "ShortEnough$Task" "groups" "LShortEnough$Groups;", Cond.methodLink RX0 36 yX0_forget, Cond.methodLink RX0 54 yX2_fillFree, Cond.methodLink RX0 60 yX0_whyNot, Cond.instanceMethod yX0_whyNot, Cond.selects RX0 yX0_whyNot yX0_whyNot, Cond.code yX0_whyNot cX0_whyNot 10 (some .int), Cond.fieldLink RX0 64 "ShortEnough$Groups" "of" "[I", Cond.fieldLink RX0 71 "ShortEnough$Ranges" "low" "[J", Cond.fieldLink RX0 79 "ShortEnough$Ranges" "high" "[J", Cond.fieldLink RX0 82 "ShortEnough$Reckoning" "errors" "[J", Cond.fieldLink RX0 107 "ShortEnough$Numbers" "allowed" "[I", Cond.methodLink RX0 67 yX9_hasFormat, Cond.methodLink RX0 75 yX0_readLong, Cond.static yX0_readLong]
noncomputable def wsL_law_r62 : List Cond := [Cond.code yX0_readLong cX0_readLong 5 (some .long), Cond.constantLong RX0 110 (-1000000000000), Cond.constantLong RX0 112 (1000000000000), Cond.methodLink RX0 114 Lib.MathLoose.min_long.x, Cond.methodLink RX0 120 Lib.MathLoose.max_long.x, Cond.methodLink RX0 85 yX6_lowest, Cond.methodLink RX0 89 yX6_highest, Cond.methodLink RX0 92 yX7_errorOf, Cond.methodLink RX0 96 yX6_amountOf, Cond.methodLink RX0 100 yX9_mostOf, Cond.methodLink RX0 104 yX9_isAnswer, Cond.methodLink RL 147 yX12_check, Cond.instanceMethod yX12_check, Cond.selects RX12 yX12_check yX12_check, Cond.code yX12_check cX12_check 4 (some .boolean), Cond.methodLink RX12 521 yX12_readsLong, Cond.instanceMethod yX12_readsLong, Cond.selects RX12 yX12_readsLong yX12_readsLong, Cond.code yX12_readsLong cX12_readsLong 5 (some .long), Cond.constantLong RX12 514 (1000000000000), Cond.constantLong RX12 516 (-1000000000000), Cond.methodLink RX12 524 yX12_breaks, Cond.instanceMethod yX12_breaks, Cond.selects RX12 yX12_breaks yX12_breaks]
noncomputable def wsL_law_r63 : List Cond := [Cond.code yX12_breaks cX12_breaks 2 (some .int), Cond.methodLink RX12 518 yX12_isFormatSaid, Cond.instanceMethod yX12_isFormatSaid, Cond.selects RX12 yX12_isFormatSaid yX12_isFormatSaid, Cond.code yX12_isFormatSaid cX12_isFormatSaid 3 (some .boolean), Cond.methodLink RL 148 yX11_broken, Cond.instanceMethod yX11_broken, Cond.selects RX11 yX11_broken yX11_broken, Cond.code yX11_broken cX11_broken 2 (some .int), Cond.fieldLink RX11 353 "ShortEnough$CertificateReader" "breaksAt" "I", Cond.fieldLink RX11 356 "ShortEnough$CertificateReader" "reason" "I", Cond.methodLink RL 151 yX12_broken, Cond.instanceMethod yX12_broken, Cond.selects RX12 yX12_broken yX12_broken, Cond.code yX12_broken cX12_broken 2 (some .int), Cond.methodLink RL 152 yX11_trials, Cond.instanceMethod yX11_trials, Cond.selects RX11 yX11_trials yX11_trials, Cond.code yX11_trials cX11_trials 6 (some .long), Cond.fieldLink RX11 361 "ShortEnough$Sampler" "kept" "[J", Cond.fieldLink RX11 364 "ShortEnough$Sampler" "exact" "[J", Cond.methodLink RX11 367 Lib.MathLoose.abs_long.x, Cond.methodLink RX11 357 yX8_sample, Cond.instanceMethod yX8_sample]
noncomputable def wsL_law_r64 : List Cond := [Cond.selects RX8 yX8_sample yX8_sample, Cond.code yX8_sample cX8_sample 13 (some .int), Cond.fieldLink RX8 18 "ShortEnough$Task" "numbers" "LShortEnough$Numbers;", Cond.fieldLink RX8 24 "ShortEnough$Numbers" "count" "I", Cond.fieldLink RX8 38 "ShortEnough$Numbers" "op" "[I", Cond.constantLong RX8 42 (1103515245), Cond.constantLong RX8 44 (12345), Cond.constantLong RX8 46 (2147483648), Cond.methodLink RX8 30 yX9_formatOf, Cond.methodLink RX8 34 yX9_stepOf, Cond.methodLink RX8 48 yX4_amountOf, Cond.methodLink RX8 56 yX8_whatOf, Cond.static yX8_whatOf, Cond.code yX8_whatOf cX8_whatOf 5 (some .long), Cond.methodLink RX8 64 yX4_madeOf, Cond.methodLink RL 155 yX12_trials, Cond.instanceMethod yX12_trials, Cond.selects RX12 yX12_trials yX12_trials, Cond.code yX12_trials cX12_trials 6 (some .long), Cond.constantLong RX12 545 (40), Cond.methodLink RX12 547 yX12_triesOnce, Cond.instanceMethod yX12_triesOnce, Cond.selects RX12 yX12_triesOnce yX12_triesOnce, Cond.code yX12_triesOnce cX12_triesOnce 4 none]
noncomputable def wsL_law_r65 : List Cond := [Cond.methodLink RX12 536 yX12_draw, Cond.instanceMethod yX12_draw, Cond.selects RX12 yX12_draw yX12_draw, Cond.code yX12_draw cX12_draw 5 (some .long), Cond.constantLong RX12 527 (1103515245), Cond.constantLong RX12 529 (12345), Cond.constantLong RX12 531 (2147483648), Cond.methodLink RX12 533 yX12_rounded, Cond.static yX12_rounded, Cond.code yX12_rounded cX12_rounded 4 (some .long), Cond.methodLink RX12 539 yX12_exactOf, Cond.instanceMethod yX12_exactOf, Cond.selects RX12 yX12_exactOf yX12_exactOf, Cond.code yX12_exactOf cX12_exactOf 4 (some .long), Cond.methodLink RX12 542 yX12_castOf, Cond.instanceMethod yX12_castOf, Cond.selects RX12 yX12_castOf yX12_castOf, Cond.code yX12_castOf cX12_castOf 4 (some .long), Cond.methodLink RL 156 yX11_trial, Cond.instanceMethod yX11_trial, Cond.selects RX11 yX11_trial yX11_trial, Cond.code yX11_trial cX11_trial 3 (some .long), Cond.methodLink RL 159 yX12_trial, Cond.instanceMethod yX12_trial]
noncomputable def wsL_law_r66 : List Cond := [Cond.selects RX12 yX12_trial yX12_trial, Cond.code yX12_trial cX12_trial 4 (some .long), Cond.methodLink RL 160 yX11_seed, Cond.instanceMethod yX11_seed, Cond.selects RX11 yX11_seed yX11_seed, Cond.code yX11_seed cX11_seed 2 (some .boolean), Cond.methodLink RL 163 yX12_seed, Cond.instanceMethod yX12_seed, Cond.selects RX12 yX12_seed yX12_seed, Cond.code yX12_seed cX12_seed 2 (some .boolean), Cond.methodLink RL 164 yX11_status, Cond.instanceMethod yX11_status, Cond.selects RX11 yX11_status yX11_status, Cond.code yX11_status cX11_status 2 (some .int), Cond.methodLink RL 167 yX12_status, Cond.instanceMethod yX12_status, Cond.selects RX12 yX12_status yX12_status, Cond.code yX12_status cX12_status 2 (some .int), Cond.constantLong RX12 550 (4)]
noncomputable def wsL_law : List Cond := (wsL_law_r1 ++ (wsL_law_r2 ++ (wsL_law_r3 ++ (wsL_law_r4 ++ (wsL_law_r5 ++ (wsL_law_r6 ++ (wsL_law_r7 ++ (wsL_law_r8 ++ (wsL_law_r9 ++ (wsL_law_r10 ++ (wsL_law_r11 ++ (wsL_law_r12 ++ (wsL_law_r13 ++ (wsL_law_r14 ++ (wsL_law_r15 ++ (wsL_law_r16 ++ (wsL_law_r17 ++ (wsL_law_r18 ++ (wsL_law_r19 ++ (wsL_law_r20 ++ (wsL_law_r21 ++ (wsL_law_r22 ++ (wsL_law_r23 ++ (wsL_law_r24 ++ (wsL_law_r25 ++ (wsL_law_r26 ++ (wsL_law_r27 ++ (wsL_law_r28 ++ (wsL_law_r29 ++ (wsL_law_r30 ++ (wsL_law_r31 ++ (wsL_law_r32 ++ (wsL_law_r33 ++ (wsL_law_r34 ++ (wsL_law_r35 ++ (wsL_law_r36 ++ (wsL_law_r37 ++ (wsL_law_r38 ++ (wsL_law_r39 ++ (wsL_law_r40 ++ (wsL_law_r41 ++ (wsL_law_r42 ++ (wsL_law_r43 ++ (wsL_law_r44 ++ (wsL_law_r45 ++ (wsL_law_r46 ++ (wsL_law_r47 ++ (wsL_law_r48 ++ (wsL_law_r49 ++ (wsL_law_r50 ++ (wsL_law_r51 ++ (wsL_law_r52 ++ (wsL_law_r53 ++ (wsL_law_r54 ++ (wsL_law_r55 ++ (wsL_law_r56 ++ (wsL_law_r57 ++ (wsL_law_r58 ++ (wsL_law_r59 ++ (wsL_law_r60 ++ (wsL_law_r61 ++ (wsL_law_r62 ++ (wsL_law_r63 ++ (wsL_law_r64 ++ (wsL_law_r65 ++ wsL_law_r66))))))))))))))))))))))))))))))))))))))))))))))))))))))))))))))))) ++ wsX110 ++ wsX120 ++ wsX50 ++ wsX90 ++ wsX70 ++ wsX60 ++ wsX10 ++ wsX30 ++ wsX00 ++ wsX80 ++ wsX100 ++ wsX40 ++ wsX20 ++ ([] : List Cond)
/-! small rows: comparisons as integers, the answers of the calls that have two, what a new object holds -/
noncomputable abbrev zU : Type := (Nat → Nat) × (Nat → Nat → Int32)
theorem zi_lt {x y : Int32} (h : x < y) : x.toInt < y.toInt := Int32.lt_iff_toInt_lt.mp h
theorem zi_nlt {x y : Int32} (h : ¬ x < y) : ¬ x.toInt < y.toInt := fun q => h (Int32.lt_iff_toInt_lt.mpr q)
theorem zi_le {x y : Int32} (h : x ≤ y) : x.toInt ≤ y.toInt := Int32.le_iff_toInt_le.mp h
theorem zi_nle {x y : Int32} (h : ¬ x ≤ y) : ¬ x.toInt ≤ y.toInt := fun q => h (Int32.le_iff_toInt_le.mpr q)
theorem zi_eq {x y : Int32} (h : x = y) : x.toInt = y.toInt := by rw [h]
theorem zi_ne {x y : Int32} (h : ¬ x = y) : ¬ x.toInt = y.toInt := fun q => h (Int32.toInt_inj.mp q)
theorem zl_lt {x y : Int64} (h : lg_cmp x y < 0) : x.toInt < y.toInt := Int64.lt_iff_toInt_lt.mp ((lg_cmp_lt x y).mp h)
theorem zl_nlt {x y : Int64} (h : ¬ lg_cmp x y < 0) : ¬ x.toInt < y.toInt := fun q => h ((lg_cmp_lt x y).mpr (Int64.lt_iff_toInt_lt.mpr q))
theorem zl_gt {x y : Int64} (h : 0 < lg_cmp x y) : y.toInt < x.toInt := Int64.lt_iff_toInt_lt.mp ((lg_cmp_gt x y).mp h)
theorem zl_ngt {x y : Int64} (h : ¬ 0 < lg_cmp x y) : ¬ y.toInt < x.toInt := fun q => h ((lg_cmp_gt x y).mpr (Int64.lt_iff_toInt_lt.mpr q))
theorem zl_ge {x y : Int64} (h : 0 ≤ lg_cmp x y) : y.toInt ≤ x.toInt := Int64.le_iff_toInt_le.mp ((lg_cmp_ge x y).mp h)
theorem zl_nge {x y : Int64} (h : ¬ 0 ≤ lg_cmp x y) : ¬ y.toInt ≤ x.toInt := fun q => h ((lg_cmp_ge x y).mpr (Int64.le_iff_toInt_le.mpr q))
theorem zl_le {x y : Int64} (h : lg_cmp x y ≤ 0) : x.toInt ≤ y.toInt := Int64.le_iff_toInt_le.mp ((lg_cmp_le x y).mp h)
theorem zl_nle {x y : Int64} (h : ¬ lg_cmp x y ≤ 0) : ¬ x.toInt ≤ y.toInt := fun q => h ((lg_cmp_le x y).mpr (Int64.le_iff_toInt_le.mpr q))
theorem zl_eq {x y : Int64} (h : lg_cmp x y = 0) : x.toInt = y.toInt := by rw [(lg_cmp_eq x y).mp h]
theorem zl_ne {x y : Int64} (h : ¬ lg_cmp x y = 0) : ¬ x.toInt = y.toInt := fun q => h ((lg_cmp_eq x y).mpr (Int64.toInt_inj.mp q))
noncomputable def zs_end (n : Int32) : Int32 := if n.toInt = 0 then 1 else 0
theorem zs_end_0 {n : Int32} (h : ¬ n.toInt = 0) : 0 = zs_end n := by rw [zs_end, if_neg h]
theorem zs_end_1 {n : Int32} (h : n.toInt = 0) : 1 = zs_end n := by rw [zs_end, if_pos h]
noncomputable def zs_fault (n : Int32) : Int32 := if n.toInt = 0 then 0 else -1
theorem zs_fault_0 {n : Int32} (h : n.toInt = 0) : 0 = zs_fault n := by rw [zs_fault, if_pos h]
theorem zs_fault_m1 {n : Int32} (h : ¬ n.toInt = 0) : -1 = zs_fault n := by rw [zs_fault, if_neg h]
noncomputable def zs_has (n : Int32) : Int32 := if n.toInt = 7 then 1 else if 0 ≤ n.toInt ∧ n.toInt ≤ 6 then 0 else -1
theorem zs_has_1 {n : Int32} (h : n.toInt = 7) : 1 = zs_has n := by rw [zs_has, if_pos h]
theorem zs_has_0 {n : Int32} (h : 0 ≤ n.toInt ∧ n.toInt ≤ 6) : 0 = zs_has n := by rw [zs_has, if_neg (by omega), if_pos h]
theorem zs_has_m1 {n : Int32} (h : n.toInt < 0 ∨ 7 < n.toInt) : -1 = zs_has n := by rw [zs_has, if_neg (by omega), if_neg (by omega)]
noncomputable def zs_seed (n : Int32) : Int32 := if n.toInt < 0 then 0 else 1
theorem zs_seed_0 {n : Int32} (h : n.toInt < 0) : 0 = zs_seed n := by rw [zs_seed, if_pos h]
theorem zs_seed_1 {n : Int32} (h : ¬ n.toInt < 0) : 1 = zs_seed n := by rw [zs_seed, if_neg h]
noncomputable def zs_status (n : Int32) : Int32 := if 0 ≤ n.toInt ∧ n.toInt < 5 then 0 else -1
theorem zs_status_0 {n : Int32} (h : 0 ≤ n.toInt ∧ n.toInt < 5) : 0 = zs_status n := by rw [zs_status, if_pos h]
theorem zs_status_m1 {n : Int32} (h : ¬ (0 ≤ n.toInt ∧ n.toInt < 5)) : -1 = zs_status n := by rw [zs_status, if_neg h]

theorem zd_X0 : ∀ j, j < 5 → defaultValue (tyX0 j) = vp_V [.null, .null, .null, .int 0, .int 0] j := by decide +kernel
theorem zd_X1 : ∀ j, j < 14 → defaultValue (tyX1 j) = vp_V [.null, .null, .int 0, .int 0, .null, .null, .int 0, .int 0, .int 0, .int 0, .int 0, .null, .null, .null] j := by decide +kernel
theorem zd_X2 : ∀ j, j < 6 → defaultValue (tyX2 j) = vp_V [.int 0, .int 0, .int 0, .null, .null, .null] j := by decide +kernel
theorem zd_X3 : ∀ j, j < 16 → defaultValue (tyX3 j) = vp_V [.null, .null, .int 0, .int 0, .null, .null, .null, .null, .int 0, .null, .int 0, .int 0, .int 0, .int 0, .int 0, .int 0] j := by decide +kernel
theorem zd_X4 : ∀ j, j < 10 → defaultValue (tyX4 j) = vp_V [.int 0, .int 0, .null, .null, .null, .null, .null, .null, .null, .null] j := by decide +kernel
theorem zd_X5 : ∀ j, j < 4 → defaultValue (tyX5 j) = vp_V [.null, .int 0, .int 0, .int 0] j := by decide +kernel
theorem zd_X6 : ∀ j, j < 3 → defaultValue (tyX6 j) = vp_V [.null, .null, .null] j := by decide +kernel
theorem zd_X7 : ∀ j, j < 3 → defaultValue (tyX7 j) = vp_V [.null, .int 0, .int 0] j := by decide +kernel
theorem zd_X8 : ∀ j, j < 2 → defaultValue (tyX8 j) = vp_V [.null, .null] j := by decide +kernel
theorem zd_X9 : ∀ j, j < 9 → defaultValue (tyX9 j) = vp_V [.int 0, .null, .null, .null, .null, .int 0, .null, .null, .null] j := by decide +kernel
theorem zd_X10 : ∀ j, j < 8 → defaultValue (tyX10 j) = vp_V [.null, .null, .int 0, .int 0, .int 0, .int 0, .int 0, .int 0] j := by decide +kernel
theorem zd_X11 : ∀ j, j < 16 → defaultValue (tyX11 j) = vp_V [.null, .int 0, .null, .null, .null, .null, .null, .null, .null, .null, .null, .null, .null, .null, .null, .int 0] j := by decide +kernel
theorem zd_X12 : ∀ j, j < 67 → defaultValue (tyX12 j) = vp_V [.null, .int 0, .null, .int 0, .int 0, .int 0, .int 0, .int 0, .int 0, .int 0, .null, .int 0, .null, .null, .null, .null, .null, .null, .null, .null, .null, .null, .null, .null, .null, .null, .null, .null, .long 0, .null, .int 0, .null, .null, .int 0, .long 0, .null, .null, .null, .int 0, .null, .null, .int 0, .int 0, .null, .int 0, .int 0, .null, .null, .null, .null, .int 0, .int 0, .int 0, .int 0, .null, .null, .null, .int 0, .int 0, .int 0, .null, .null, .null, .null, .int 0, .null, .null] j := by decide +kernel

/-! what the Statement gives of the one text: its place, its bytes, the statics that its methods read -/
noncomputable def zBY : List Int32 := [102, 111, 114, 109, 97, 116, 32, 115, 116, 101, 112, 32, 32, 32, 109, 111, 115, 116, 32, 32, 32, 99, 111, 115, 116, 32, 32, 32, 99, 97, 115, 116, 32, 32, 32, 105, 110, 112, 117, 116, 32, 32, 108, 101, 116, 32, 32, 32, 32, 109, 105, 110, 32, 32, 32, 32, 109, 97, 120, 32, 32, 32, 32, 102, 105, 120, 101, 100, 32, 32, 103, 114, 111, 117, 112, 32, 32, 97, 110, 115, 119, 101, 114, 32, 119, 105, 116, 104, 105, 110, 32]
noncomputable def zTX : String := "format step   most   cost   cast   input  let    min    max    fixed  group  answer within "
noncomputable def zF (adK adV : Nat → Nat) (A : Nat → Prop) (U : State) (H : Heap) : Prop := vk_R RX10 19 zTX (adK 0) U ∧ vk_S 1 [91] [zBY] adK adV A U H ∧ va_Z "java/lang/String" "COMPACT_STRINGS" "Z" (.int 1) A U H ∧ va_Zq "jdk/internal/util/Preconditions" "SIOOBE_FORMATTER" "Ljava/util/function/BiFunction;" A U H
theorem zq_moved {C n d : String} {A : Nat → Prop} {u U : State} {H : Heap} (hvm : u.vm.Alike U.vm) (h : va_Zq C n d A u H) : va_Zq C n d A U H := h.elim (fun h => Or.inl (h.moved hvm)) (fun ⟨t, h⟩ => Or.inr ⟨t, h.moved hvm⟩)
theorem zq_kept {C n d : String} {A : Nat → Prop} {U : State} {H H1 : Heap} (h : va_Zq C n d A U H) (hq : ∀ a : Nat, a < H.size → ¬ A a → H1[a]? = H[a]?) : va_Zq C n d A U H1 := h.elim (fun h => Or.inl (h.kept hq)) (fun ⟨t, h⟩ => Or.inr ⟨t, h.kept hq⟩)
theorem zq_narrow {C n d : String} {A B : Nat → Prop} {U : State} {H : Heap} (h : va_Zq C n d A U H) (hAB : ∀ q, B q → A q) : va_Zq C n d B U H := h.elim (fun h => Or.inl (h.narrow hAB)) (fun ⟨t, h⟩ => Or.inr ⟨t, h.narrow hAB⟩)
theorem zF_blind {adK adV : Nat → Nat} {B : Nat → Prop} {U : State} {g : JFrame} {mk : MethodId} {a : Array Value} (h : zF adK adV B U U.heap) : zF adK adV B (U.calling g mk a) (U.calling g mk a).heap := ⟨vk_R.same rfl h.1, vk_S.moved (u := U) (U := U.calling g mk a) (Vm.Alike.refl U.vm) h.2.1, va_Z.moved (u := U) (U := U.calling g mk a) (Vm.Alike.refl U.vm) h.2.2.1, zq_moved (u := U) (U := U.calling g mk a) (Vm.Alike.refl U.vm) h.2.2.2⟩
theorem zF_to {adK adV : Nat → Nat} {A B : Nat → Prop} {s U : State} {H : Heap} {locs : List Loc} (h : zF adK adV A s s.heap) (hS : va_S A s.heap H locs) (hB : ∀ q, B q → A q) (hW : s.WarmedH U.vm) (hU : U.heap = H) : zF adK adV B U U.heap := by
  rw [hU]
  exact ⟨vk_R.warm hW h.1, vk_S.moved hW.alike (vk_S.narrow (vk_S.kept h.2.1 hS.2.1) hB), va_Z.moved hW.alike (va_Z.narrow (va_Z.kept h.2.2.1 hS.2.1) hB), zq_moved hW.alike (zq_narrow (zq_kept h.2.2.2 hS.2.1) hB)⟩
theorem zn_c2 {x y : Int32} (h : (x.toUInt32 % 65536).toInt32 = y) : narrow .char (.int y) = .int y := by
  subst h
  show Value.int _ = Value.int _
  congr 1
  apply Int32.toBitVec_inj.mp
  apply BitVec.eq_of_toNat_eq
  simp
theorem z_inc {x y : Int32} (e : y = x + 1) (h : 0 ≤ x.toInt ∧ x.toInt < 1000) : y.toInt = x.toInt + 1 := by
  have k1 : (1 : Int32).toInt = 1 := by decide +kernel
  rw [e, Int32.toInt_add, k1, Int.bmod_def]
  split <;> omega
theorem z_at {x1 x2 y z : Int32} (ey : y = x1 * 7) (ez : z = y + x2) (h1 : 0 ≤ x1.toInt ∧ x1.toInt < 13) (h2 : 0 ≤ x2.toInt ∧ x2.toInt < 7) : z.toInt = x1.toInt * 7 + x2.toInt := by
  have k7 : (7 : Int32).toInt = 7 := by decide +kernel
  have hy : y.toInt = x1.toInt * 7 := by
    rw [ey, Int32.toInt_mul, k7, Int.bmod_def]
    split <;> omega
  rw [ez, Int32.toInt_add, hy, Int.bmod_def]
  split <;> omega

/-! the letters of the one text, and a name of six of them as one number -/
noncomputable def zChN (k : Nat) : Int32 := ((((([zBY] : List (List Int32)).getD 0 []).getD k 0) &&& 255).toUInt32 % 65536).toInt32
noncomputable def zChr (p : Int32) : Int32 := zChN p.toNatClampNeg
theorem zChr_of {p x y z : Int32} (h1 : x = (([zBY] : List (List Int32)).getD 0 []).getD p.toNatClampNeg 0) (h2 : y = x &&& 255) (h3 : (y.toUInt32 % 65536).toInt32 = z) : z = zChr p := by
  subst h1
  subst h2
  exact h3.symm
noncomputable def zOr (a r : Int32) : Int32 := (a <<< ((5 : Int32) &&& 31)) ||| (if r = 32 then 0 else r - 97 + 1)
theorem zOr_ne {a r : Int32} (h : ¬ r = 32) : (a <<< ((5 : Int32) &&& 31)) ||| (r - 97 + 1) = zOr a r := by
  unfold zOr
  rw [if_neg h]
theorem zOr_eq {a r : Int32} (h : r = 32) : (a <<< ((5 : Int32) &&& 31)) ||| 0 = zOr a r := by
  unfold zOr
  rw [if_pos h]
noncomputable def zOw (w : Nat) : Nat → Int32
  | 0 => 0
  | j + 1 => zOr (zOw w j) (zChN (w * 7 + j))
noncomputable def zOwnI (x1 x2 : Int32) (f : Nat → Int32) : Prop := ∀ w : Nat, f w = if w < x1.toNatClampNeg then zOw w 6 else if w = x1.toNatClampNeg then zOw w x2.toNatClampNeg else 0
noncomputable def zOwnO (x1 : Int32) (f : Nat → Int32) : Prop := ∀ w : Nat, f w = if w < x1.toNatClampNeg then zOw w 6 else 0
theorem zOwn_st {x1 x2 x3 y r v : Int32} {f g : Nat → Int32} (h : zOwnI x1 x2 f) (h3 : x3.toInt = x1.toInt * 7 + x2.toInt) (hr : r = zChr x3) (h1 : 0 ≤ x1.toInt ∧ x1.toInt < 13) (h2 : 0 ≤ x2.toInt) (hy : y.toInt = x2.toInt + 1) (eg : g = upd f x1.toNatClampNeg v) (hv : v = zOr (f x1.toNatClampNeg) r) : zOwnI x1 y g := by
  have k1 : x3.toNatClampNeg = x1.toNatClampNeg * 7 + x2.toNatClampNeg := by
    show x3.toInt.toNat = x1.toInt.toNat * 7 + x2.toInt.toNat
    omega
  have k2 : y.toNatClampNeg = x2.toNatClampNeg + 1 := by
    show y.toInt.toNat = x2.toInt.toNat + 1
    omega
  have k3 := h x1.toNatClampNeg
  rw [if_neg (Nat.lt_irrefl _), if_pos rfl] at k3
  intro w
  rw [eg, k2]
  show (if w = x1.toNatClampNeg then v else f w) = _
  by_cases c : w = x1.toNatClampNeg
  · rw [if_pos c, hv, k3, hr, c, if_neg (Nat.lt_irrefl _), if_pos rfl]
    show zOr _ (zChN x3.toNatClampNeg) = zOr (zOw x1.toNatClampNeg x2.toNatClampNeg) (zChN (x1.toNatClampNeg * 7 + x2.toNatClampNeg))
    rw [k1]
  · rw [if_neg c, h w, if_neg c, if_neg c]
theorem zOwnI_6 {x1 x2 : Int32} {f : Nat → Int32} (h2 : x2.toInt = 6) (h : zOwnI x1 x2 f) : zOwnI x1 6 f := by
  have e : x2 = 6 := Int32.toInt_inj.mp (by rw [h2]; decide +kernel)
  subst e
  exact h
theorem zOwnI_0 {x1 : Int32} {f : Nat → Int32} (h : zOwnO x1 f) : zOwnI x1 0 f := by
  intro w
  rw [h w]
  have e : (0 : Int32).toNatClampNeg = 0 := by decide +kernel
  rw [e]
  by_cases c : w < x1.toNatClampNeg
  · rw [if_pos c, if_pos c]
  · rw [if_neg c, if_neg c]
    by_cases d : w = x1.toNatClampNeg
    · rw [if_pos d]; rfl
    · rw [if_neg d]
theorem zOwnO_n {x1 y : Int32} {f : Nat → Int32} (h : zOwnI x1 6 f) (h1 : 0 ≤ x1.toInt) (hy : y.toInt = x1.toInt + 1) : zOwnO y f := by
  have k : y.toNatClampNeg = x1.toNatClampNeg + 1 := by
    show y.toInt.toNat = x1.toInt.toNat + 1
    omega
  have e : (6 : Int32).toNatClampNeg = 6 := by decide +kernel
  intro w
  rw [h w, k, e]
  by_cases c : w < x1.toNatClampNeg
  · rw [if_pos c, if_pos (by omega)]
  · rw [if_neg c]
    by_cases d : w = x1.toNatClampNeg
    · rw [if_pos d, if_pos (by omega)]
    · rw [if_neg d, if_neg (by omega)]
theorem zOwnO_0 : zOwnO 0 (fun _ => 0) := by
  intro w
  have e : (0 : Int32).toNatClampNeg = 0 := by decide +kernel
  rw [e, if_neg (Nat.not_lt_zero _)]
theorem zOwnO_f {x1 : Int32} {f : Nat → Int32} (h1 : x1.toInt = 13) (h : zOwnO x1 f) (w : Nat) (hw : w < 13) : f w = zOw w 6 := by
  have k : x1.toNatClampNeg = 13 := by
    show x1.toInt.toNat = 13
    omega
  rw [h w, k, if_pos hw]
theorem zOwT_eq : ∀ w : Nat, w < 13 → zOw w 6 = zOwT w := by decide +kernel
set_option maxRecDepth 100000 in
theorem ggJ0_length_8abf5_J0_coder_7d493 : GoodIn wsJ0_length_8abf5 wsJ0_coder_7d493 := goodIn_r _ [6, 7, 8] rfl (by decide +kernel)
set_option maxRecDepth 100000 in
theorem gJ0_length_8abf5_J0_coder_7d493 : GoodIn wsJ0_length_8abf5 (wsV RJ0 335 RJ0 yJ0_coder_7d493 wsJ0_coder_7d493) := goodIn_app (goodIn_r _ [2, 3, 4, 5] rfl (by decide +kernel)) ggJ0_length_8abf5_J0_coder_7d493
set_option maxRecDepth 100000 in
theorem ggJ0_charAt_5068e_J0_isLatin1_aae02 : GoodIn wsJ0_charAt_5068e wsJ0_isLatin1_aae02 := goodIn_r _ [6, 7, 8] rfl (by decide +kernel)
set_option maxRecDepth 100000 in
theorem gJ0_charAt_5068e_J0_isLatin1_aae02 : GoodIn wsJ0_charAt_5068e (wsV RJ0 492 RJ0 yJ0_isLatin1_aae02 wsJ0_isLatin1_aae02) := goodIn_app (goodIn_r _ [2, 3, 4, 5] rfl (by decide +kernel)) ggJ0_charAt_5068e_J0_isLatin1_aae02
set_option maxRecDepth 100000 in
theorem ggJ0_charAt_5068e_J1_charAt_3b067 : GoodIn wsJ0_charAt_5068e wsJ1_charAt_3b067 := goodIn_r _ [12, 13, 14, 5, 15, 16, 17, 18, 19, 20] rfl (by decide +kernel)
set_option maxRecDepth 100000 in
theorem gJ0_charAt_5068e_J1_charAt_3b067 : GoodIn wsJ0_charAt_5068e (va_wsS RJ0 495 yJ1_charAt_3b067 wsJ1_charAt_3b067) := goodIn_app (goodIn_r _ [9, 10, 11] rfl (by decide +kernel)) ggJ0_charAt_5068e_J1_charAt_3b067
set_option maxRecDepth 100000 in
theorem ggJ0_checkIndex_df160_J3_checkIndex_8e157 : GoodIn wsJ0_checkIndex_df160 wsJ3_checkIndex_8e157 := goodIn_r _ [5] rfl (by decide +kernel)
set_option maxRecDepth 100000 in
theorem gJ0_checkIndex_df160_J3_checkIndex_8e157 : GoodIn wsJ0_checkIndex_df160 (va_wsS RJ0 1059 yJ3_checkIndex_8e157 wsJ3_checkIndex_8e157) := goodIn_app (goodIn_r _ [2, 3, 4] rfl (by decide +kernel)) ggJ0_checkIndex_df160_J3_checkIndex_8e157
set_option maxRecDepth 100000 in
theorem ggJ1_charAt_3b067_J0_checkIndex_df160 : GoodIn wsJ1_charAt_3b067 wsJ0_checkIndex_df160 := goodIn_r _ [4, 5, 6, 7, 8, 9] rfl (by decide +kernel)
set_option maxRecDepth 100000 in
theorem gJ1_charAt_3b067_J0_checkIndex_df160 : GoodIn wsJ1_charAt_3b067 (va_wsS RJ1 9 yJ0_checkIndex_df160 wsJ0_checkIndex_df160) := goodIn_app (goodIn_r _ [1, 2, 3] rfl (by decide +kernel)) ggJ1_charAt_3b067_J0_checkIndex_df160
theorem dX12_init_0 : decode cX12_init 0 = .ok (.aload_n 0, 1) := zDc_42 (by decide +kernel)
theorem dX12_init_1 : decode cX12_init 1 = .ok (.invokespecial 1, 3) := zDc_183 (by decide +kernel)
theorem dX12_init_4 : decode cX12_init 4 = .ok (.aload_n 0, 1) := zDc_42 (by decide +kernel)
theorem dX12_init_5 : decode cX12_init 5 = .ok (.sipush 1200, 3) := zDc_17 (by decide +kernel)
theorem dX12_init_8 : decode cX12_init 8 = .ok (.newarray .int, 2) := zDc_188_10 (by decide +kernel)
theorem dX12_init_10 : decode cX12_init 10 = .ok (.putfield 7, 3) := zDc_181 (by decide +kernel)
theorem dX12_init_13 : decode cX12_init 13 = .ok (.aload_n 0, 1) := zDc_42 (by decide +kernel)
theorem dX12_init_14 : decode cX12_init 14 = .ok (.iconst 0, 1) := zDc_3 (by decide +kernel)
theorem dX12_init_15 : decode cX12_init 15 = .ok (.putfield 13, 3) := zDc_181 (by decide +kernel)
theorem dX12_init_18 : decode cX12_init 18 = .ok (.aload_n 0, 1) := zDc_42 (by decide +kernel)
theorem dX12_init_19 : decode cX12_init 19 = .ok (.iconst 5, 1) := zDc_8 (by decide +kernel)
theorem dX12_init_20 : decode cX12_init 20 = .ok (.newarray .int, 2) := zDc_188_10 (by decide +kernel)
theorem dX12_init_22 : decode cX12_init 22 = .ok (.putfield 17, 3) := zDc_181 (by decide +kernel)
theorem dX12_init_25 : decode cX12_init 25 = .ok (.aload_n 0, 1) := zDc_42 (by decide +kernel)
theorem dX12_init_26 : decode cX12_init 26 = .ok (.iconst 0, 1) := zDc_3 (by decide +kernel)
theorem dX12_init_27 : decode cX12_init 27 = .ok (.putfield 20, 3) := zDc_181 (by decide +kernel)
theorem dX12_init_30 : decode cX12_init 30 = .ok (.aload_n 0, 1) := zDc_42 (by decide +kernel)
theorem dX12_init_31 : decode cX12_init 31 = .ok (.iconst (-1), 1) := zDc_2 (by decide +kernel)
theorem dX12_init_32 : decode cX12_init 32 = .ok (.putfield 23, 3) := zDc_181 (by decide +kernel)
theorem dX12_init_35 : decode cX12_init 35 = .ok (.aload_n 0, 1) := zDc_42 (by decide +kernel)
theorem dX12_init_36 : decode cX12_init 36 = .ok (.iconst 0, 1) := zDc_3 (by decide +kernel)
theorem dX12_init_37 : decode cX12_init 37 = .ok (.putfield 26, 3) := zDc_181 (by decide +kernel)
theorem dX12_init_40 : decode cX12_init 40 = .ok (.aload_n 0, 1) := zDc_42 (by decide +kernel)
theorem dX12_init_41 : decode cX12_init 41 = .ok (.iconst 0, 1) := zDc_3 (by decide +kernel)
theorem dX12_init_42 : decode cX12_init 42 = .ok (.putfield 29, 3) := zDc_181 (by decide +kernel)
theorem dX12_init_45 : decode cX12_init 45 = .ok (.aload_n 0, 1) := zDc_42 (by decide +kernel)
theorem dX12_init_46 : decode cX12_init 46 = .ok (.iconst 0, 1) := zDc_3 (by decide +kernel)
theorem dX12_init_47 : decode cX12_init 47 = .ok (.putfield 32, 3) := zDc_181 (by decide +kernel)
theorem dX12_init_50 : decode cX12_init 50 = .ok (.aload_n 0, 1) := zDc_42 (by decide +kernel)
theorem dX12_init_51 : decode cX12_init 51 = .ok (.iconst 0, 1) := zDc_3 (by decide +kernel)
theorem dX12_init_52 : decode cX12_init 52 = .ok (.putfield 35, 3) := zDc_181 (by decide +kernel)
theorem dX12_init_55 : decode cX12_init 55 = .ok (.aload_n 0, 1) := zDc_42 (by decide +kernel)
theorem dX12_init_56 : decode cX12_init 56 = .ok (.iconst (-1), 1) := zDc_2 (by decide +kernel)
theorem dX12_init_57 : decode cX12_init 57 = .ok (.putfield 38, 3) := zDc_181 (by decide +kernel)
theorem dX12_init_60 : decode cX12_init 60 = .ok (.aload_n 0, 1) := zDc_42 (by decide +kernel)
theorem dX12_init_61 : decode cX12_init 61 = .ok (.bipush 71, 2) := zDc_16 (by decide +kernel)
theorem dX12_init_63 : decode cX12_init 63 = .ok (.newarray .int, 2) := zDc_188_10 (by decide +kernel)
theorem dX12_init_65 : decode cX12_init 65 = .ok (.dup, 1) := zDc_89 (by decide +kernel)
theorem dX12_init_66 : decode cX12_init 66 = .ok (.iconst 0, 1) := zDc_3 (by decide +kernel)
theorem dX12_init_67 : decode cX12_init 67 = .ok (.bipush 6, 2) := zDc_16 (by decide +kernel)
theorem dX12_init_69 : decode cX12_init 69 = .ok (.iastore, 1) := zDc_79 (by decide +kernel)
theorem dX12_init_70 : decode cX12_init 70 = .ok (.dup, 1) := zDc_89 (by decide +kernel)
theorem dX12_init_71 : decode cX12_init 71 = .ok (.iconst 1, 1) := zDc_4 (by decide +kernel)
theorem dX12_init_72 : decode cX12_init 72 = .ok (.bipush 15, 2) := zDc_16 (by decide +kernel)
theorem dX12_init_74 : decode cX12_init 74 = .ok (.iastore, 1) := zDc_79 (by decide +kernel)
theorem dX12_init_75 : decode cX12_init 75 = .ok (.dup, 1) := zDc_89 (by decide +kernel)
theorem dX12_init_76 : decode cX12_init 76 = .ok (.iconst 2, 1) := zDc_5 (by decide +kernel)
theorem dX12_init_77 : decode cX12_init 77 = .ok (.bipush 18, 2) := zDc_16 (by decide +kernel)
theorem dX12_init_79 : decode cX12_init 79 = .ok (.iastore, 1) := zDc_79 (by decide +kernel)
theorem dX12_init_80 : decode cX12_init 80 = .ok (.dup, 1) := zDc_89 (by decide +kernel)
theorem dX12_init_81 : decode cX12_init 81 = .ok (.iconst 3, 1) := zDc_6 (by decide +kernel)
theorem dX12_init_82 : decode cX12_init 82 = .ok (.bipush 13, 2) := zDc_16 (by decide +kernel)
theorem dX12_init_84 : decode cX12_init 84 = .ok (.iastore, 1) := zDc_79 (by decide +kernel)
theorem dX12_init_85 : decode cX12_init 85 = .ok (.dup, 1) := zDc_89 (by decide +kernel)
theorem dX12_init_86 : decode cX12_init 86 = .ok (.iconst 4, 1) := zDc_7 (by decide +kernel)
theorem dX12_init_87 : decode cX12_init 87 = .ok (.iconst 1, 1) := zDc_4 (by decide +kernel)
theorem dX12_init_88 : decode cX12_init 88 = .ok (.iastore, 1) := zDc_79 (by decide +kernel)
theorem dX12_init_89 : decode cX12_init 89 = .ok (.dup, 1) := zDc_89 (by decide +kernel)
theorem dX12_init_90 : decode cX12_init 90 = .ok (.iconst 5, 1) := zDc_8 (by decide +kernel)
theorem dX12_init_91 : decode cX12_init 91 = .ok (.bipush 20, 2) := zDc_16 (by decide +kernel)
theorem dX12_init_93 : decode cX12_init 93 = .ok (.iastore, 1) := zDc_79 (by decide +kernel)
theorem dX12_init_94 : decode cX12_init 94 = .ok (.dup, 1) := zDc_89 (by decide +kernel)
theorem dX12_init_95 : decode cX12_init 95 = .ok (.bipush 6, 2) := zDc_16 (by decide +kernel)
theorem dX12_init_97 : decode cX12_init 97 = .ok (.iconst 0, 1) := zDc_3 (by decide +kernel)
theorem dX12_init_98 : decode cX12_init 98 = .ok (.iastore, 1) := zDc_79 (by decide +kernel)
theorem dX12_init_99 : decode cX12_init 99 = .ok (.dup, 1) := zDc_89 (by decide +kernel)
theorem dX12_init_100 : decode cX12_init 100 = .ok (.bipush 7, 2) := zDc_16 (by decide +kernel)
theorem dX12_init_102 : decode cX12_init 102 = .ok (.bipush 19, 2) := zDc_16 (by decide +kernel)
theorem dX12_init_104 : decode cX12_init 104 = .ok (.iastore, 1) := zDc_79 (by decide +kernel)
theorem dX12_init_105 : decode cX12_init 105 = .ok (.dup, 1) := zDc_89 (by decide +kernel)
theorem dX12_init_106 : decode cX12_init 106 = .ok (.bipush 8, 2) := zDc_16 (by decide +kernel)
theorem dX12_init_108 : decode cX12_init 108 = .ok (.bipush 20, 2) := zDc_16 (by decide +kernel)
theorem dX12_init_110 : decode cX12_init 110 = .ok (.iastore, 1) := zDc_79 (by decide +kernel)
theorem dX12_init_111 : decode cX12_init 111 = .ok (.dup, 1) := zDc_89 (by decide +kernel)
theorem dX12_init_112 : decode cX12_init 112 = .ok (.bipush 9, 2) := zDc_16 (by decide +kernel)
theorem dX12_init_114 : decode cX12_init 114 = .ok (.iconst 5, 1) := zDc_8 (by decide +kernel)
theorem dX12_init_115 : decode cX12_init 115 = .ok (.iastore, 1) := zDc_79 (by decide +kernel)
theorem dX12_init_116 : decode cX12_init 116 = .ok (.dup, 1) := zDc_89 (by decide +kernel)
theorem dX12_init_117 : decode cX12_init 117 = .ok (.bipush 10, 2) := zDc_16 (by decide +kernel)
theorem dX12_init_119 : decode cX12_init 119 = .ok (.bipush 16, 2) := zDc_16 (by decide +kernel)
theorem dX12_init_121 : decode cX12_init 121 = .ok (.iastore, 1) := zDc_79 (by decide +kernel)
theorem dX12_init_122 : decode cX12_init 122 = .ok (.dup, 1) := zDc_89 (by decide +kernel)
theorem dX12_init_123 : decode cX12_init 123 = .ok (.bipush 11, 2) := zDc_16 (by decide +kernel)
theorem dX12_init_125 : decode cX12_init 125 = .ok (.iconst 0, 1) := zDc_3 (by decide +kernel)
theorem dX12_init_126 : decode cX12_init 126 = .ok (.iastore, 1) := zDc_79 (by decide +kernel)
theorem dX12_init_127 : decode cX12_init 127 = .ok (.dup, 1) := zDc_89 (by decide +kernel)
theorem dX12_init_128 : decode cX12_init 128 = .ok (.bipush 12, 2) := zDc_16 (by decide +kernel)
theorem dX12_init_130 : decode cX12_init 130 = .ok (.bipush 13, 2) := zDc_16 (by decide +kernel)
theorem dX12_init_132 : decode cX12_init 132 = .ok (.iastore, 1) := zDc_79 (by decide +kernel)
theorem dX12_init_133 : decode cX12_init 133 = .ok (.dup, 1) := zDc_89 (by decide +kernel)
theorem dX12_init_134 : decode cX12_init 134 = .ok (.bipush 13, 2) := zDc_16 (by decide +kernel)
theorem dX12_init_136 : decode cX12_init 136 = .ok (.bipush 15, 2) := zDc_16 (by decide +kernel)
theorem dX12_init_138 : decode cX12_init 138 = .ok (.iastore, 1) := zDc_79 (by decide +kernel)
theorem dX12_init_139 : decode cX12_init 139 = .ok (.dup, 1) := zDc_89 (by decide +kernel)
theorem dX12_init_140 : decode cX12_init 140 = .ok (.bipush 14, 2) := zDc_16 (by decide +kernel)
theorem dX12_init_142 : decode cX12_init 142 = .ok (.bipush 19, 2) := zDc_16 (by decide +kernel)
theorem dX12_init_144 : decode cX12_init 144 = .ok (.iastore, 1) := zDc_79 (by decide +kernel)
theorem dX12_init_145 : decode cX12_init 145 = .ok (.dup, 1) := zDc_89 (by decide +kernel)
theorem dX12_init_146 : decode cX12_init 146 = .ok (.bipush 15, 2) := zDc_16 (by decide +kernel)
theorem dX12_init_148 : decode cX12_init 148 = .ok (.bipush 20, 2) := zDc_16 (by decide +kernel)
theorem dX12_init_150 : decode cX12_init 150 = .ok (.iastore, 1) := zDc_79 (by decide +kernel)
theorem dX12_init_151 : decode cX12_init 151 = .ok (.dup, 1) := zDc_89 (by decide +kernel)
theorem dX12_init_152 : decode cX12_init 152 = .ok (.bipush 16, 2) := zDc_16 (by decide +kernel)
theorem dX12_init_154 : decode cX12_init 154 = .ok (.iconst 0, 1) := zDc_3 (by decide +kernel)
theorem dX12_init_155 : decode cX12_init 155 = .ok (.iastore, 1) := zDc_79 (by decide +kernel)
theorem dX12_init_156 : decode cX12_init 156 = .ok (.dup, 1) := zDc_89 (by decide +kernel)
theorem dX12_init_157 : decode cX12_init 157 = .ok (.bipush 17, 2) := zDc_16 (by decide +kernel)
theorem dX12_init_159 : decode cX12_init 159 = .ok (.iconst 3, 1) := zDc_6 (by decide +kernel)
theorem dX12_init_160 : decode cX12_init 160 = .ok (.iastore, 1) := zDc_79 (by decide +kernel)
theorem dX12_init_161 : decode cX12_init 161 = .ok (.dup, 1) := zDc_89 (by decide +kernel)
theorem dX12_init_162 : decode cX12_init 162 = .ok (.bipush 18, 2) := zDc_16 (by decide +kernel)
theorem dX12_init_164 : decode cX12_init 164 = .ok (.bipush 15, 2) := zDc_16 (by decide +kernel)
theorem dX12_init_166 : decode cX12_init 166 = .ok (.iastore, 1) := zDc_79 (by decide +kernel)
theorem dX12_init_167 : decode cX12_init 167 = .ok (.dup, 1) := zDc_89 (by decide +kernel)
theorem dX12_init_168 : decode cX12_init 168 = .ok (.bipush 19, 2) := zDc_16 (by decide +kernel)
theorem dX12_init_170 : decode cX12_init 170 = .ok (.bipush 19, 2) := zDc_16 (by decide +kernel)
theorem dX12_init_172 : decode cX12_init 172 = .ok (.iastore, 1) := zDc_79 (by decide +kernel)
theorem dX12_init_173 : decode cX12_init 173 = .ok (.dup, 1) := zDc_89 (by decide +kernel)
theorem dX12_init_174 : decode cX12_init 174 = .ok (.bipush 20, 2) := zDc_16 (by decide +kernel)
theorem dX12_init_176 : decode cX12_init 176 = .ok (.bipush 20, 2) := zDc_16 (by decide +kernel)
theorem dX12_init_178 : decode cX12_init 178 = .ok (.iastore, 1) := zDc_79 (by decide +kernel)
theorem dX12_init_179 : decode cX12_init 179 = .ok (.dup, 1) := zDc_89 (by decide +kernel)
theorem dX12_init_180 : decode cX12_init 180 = .ok (.bipush 21, 2) := zDc_16 (by decide +kernel)
theorem dX12_init_182 : decode cX12_init 182 = .ok (.iconst 0, 1) := zDc_3 (by decide +kernel)
theorem dX12_init_183 : decode cX12_init 183 = .ok (.iastore, 1) := zDc_79 (by decide +kernel)
theorem dX12_init_184 : decode cX12_init 184 = .ok (.dup, 1) := zDc_89 (by decide +kernel)
theorem dX12_init_185 : decode cX12_init 185 = .ok (.bipush 22, 2) := zDc_16 (by decide +kernel)
theorem dX12_init_187 : decode cX12_init 187 = .ok (.iconst 3, 1) := zDc_6 (by decide +kernel)
theorem dX12_init_188 : decode cX12_init 188 = .ok (.iastore, 1) := zDc_79 (by decide +kernel)
theorem dX12_init_189 : decode cX12_init 189 = .ok (.dup, 1) := zDc_89 (by decide +kernel)
theorem dX12_init_190 : decode cX12_init 190 = .ok (.bipush 23, 2) := zDc_16 (by decide +kernel)
theorem dX12_init_192 : decode cX12_init 192 = .ok (.iconst 1, 1) := zDc_4 (by decide +kernel)
theorem dX12_init_193 : decode cX12_init 193 = .ok (.iastore, 1) := zDc_79 (by decide +kernel)
theorem dX12_init_194 : decode cX12_init 194 = .ok (.dup, 1) := zDc_89 (by decide +kernel)
theorem dX12_init_195 : decode cX12_init 195 = .ok (.bipush 24, 2) := zDc_16 (by decide +kernel)
theorem dX12_init_197 : decode cX12_init 197 = .ok (.bipush 19, 2) := zDc_16 (by decide +kernel)
theorem dX12_init_199 : decode cX12_init 199 = .ok (.iastore, 1) := zDc_79 (by decide +kernel)
theorem dX12_init_200 : decode cX12_init 200 = .ok (.dup, 1) := zDc_89 (by decide +kernel)
theorem dX12_init_201 : decode cX12_init 201 = .ok (.bipush 25, 2) := zDc_16 (by decide +kernel)
theorem dX12_init_203 : decode cX12_init 203 = .ok (.bipush 20, 2) := zDc_16 (by decide +kernel)
theorem dX12_init_205 : decode cX12_init 205 = .ok (.iastore, 1) := zDc_79 (by decide +kernel)
theorem dX12_init_206 : decode cX12_init 206 = .ok (.dup, 1) := zDc_89 (by decide +kernel)
theorem dX12_init_207 : decode cX12_init 207 = .ok (.bipush 26, 2) := zDc_16 (by decide +kernel)
theorem dX12_init_209 : decode cX12_init 209 = .ok (.iconst 0, 1) := zDc_3 (by decide +kernel)
theorem dX12_init_210 : decode cX12_init 210 = .ok (.iastore, 1) := zDc_79 (by decide +kernel)
theorem dX12_init_211 : decode cX12_init 211 = .ok (.dup, 1) := zDc_89 (by decide +kernel)
theorem dX12_init_212 : decode cX12_init 212 = .ok (.bipush 27, 2) := zDc_16 (by decide +kernel)
theorem dX12_init_214 : decode cX12_init 214 = .ok (.bipush 9, 2) := zDc_16 (by decide +kernel)
theorem dX12_init_216 : decode cX12_init 216 = .ok (.iastore, 1) := zDc_79 (by decide +kernel)
theorem dX12_init_217 : decode cX12_init 217 = .ok (.dup, 1) := zDc_89 (by decide +kernel)
theorem dX12_init_218 : decode cX12_init 218 = .ok (.bipush 28, 2) := zDc_16 (by decide +kernel)
theorem dX12_init_220 : decode cX12_init 220 = .ok (.bipush 14, 2) := zDc_16 (by decide +kernel)
theorem dX12_init_222 : decode cX12_init 222 = .ok (.iastore, 1) := zDc_79 (by decide +kernel)
theorem dX12_init_223 : decode cX12_init 223 = .ok (.dup, 1) := zDc_89 (by decide +kernel)
theorem dX12_init_224 : decode cX12_init 224 = .ok (.bipush 29, 2) := zDc_16 (by decide +kernel)
theorem dX12_init_226 : decode cX12_init 226 = .ok (.bipush 16, 2) := zDc_16 (by decide +kernel)
theorem dX12_init_228 : decode cX12_init 228 = .ok (.iastore, 1) := zDc_79 (by decide +kernel)
theorem dX12_init_229 : decode cX12_init 229 = .ok (.dup, 1) := zDc_89 (by decide +kernel)
theorem dX12_init_230 : decode cX12_init 230 = .ok (.bipush 30, 2) := zDc_16 (by decide +kernel)
theorem dX12_init_232 : decode cX12_init 232 = .ok (.bipush 21, 2) := zDc_16 (by decide +kernel)
theorem dX12_init_234 : decode cX12_init 234 = .ok (.iastore, 1) := zDc_79 (by decide +kernel)
theorem dX12_init_235 : decode cX12_init 235 = .ok (.dup, 1) := zDc_89 (by decide +kernel)
theorem dX12_init_236 : decode cX12_init 236 = .ok (.bipush 31, 2) := zDc_16 (by decide +kernel)
theorem dX12_init_238 : decode cX12_init 238 = .ok (.bipush 20, 2) := zDc_16 (by decide +kernel)
theorem dX12_init_240 : decode cX12_init 240 = .ok (.iastore, 1) := zDc_79 (by decide +kernel)
theorem dX12_init_241 : decode cX12_init 241 = .ok (.dup, 1) := zDc_89 (by decide +kernel)
theorem dX12_init_242 : decode cX12_init 242 = .ok (.bipush 32, 2) := zDc_16 (by decide +kernel)
theorem dX12_init_244 : decode cX12_init 244 = .ok (.iconst 0, 1) := zDc_3 (by decide +kernel)
theorem dX12_init_245 : decode cX12_init 245 = .ok (.iastore, 1) := zDc_79 (by decide +kernel)
theorem dX12_init_246 : decode cX12_init 246 = .ok (.dup, 1) := zDc_89 (by decide +kernel)
theorem dX12_init_247 : decode cX12_init 247 = .ok (.bipush 33, 2) := zDc_16 (by decide +kernel)
theorem dX12_init_249 : decode cX12_init 249 = .ok (.bipush 12, 2) := zDc_16 (by decide +kernel)
theorem dX12_init_251 : decode cX12_init 251 = .ok (.iastore, 1) := zDc_79 (by decide +kernel)
theorem dX12_init_252 : decode cX12_init 252 = .ok (.dup, 1) := zDc_89 (by decide +kernel)
theorem dX12_init_253 : decode cX12_init 253 = .ok (.bipush 34, 2) := zDc_16 (by decide +kernel)
theorem dX12_init_255 : decode cX12_init 255 = .ok (.iconst 5, 1) := zDc_8 (by decide +kernel)
theorem dX12_init_256 : decode cX12_init 256 = .ok (.iastore, 1) := zDc_79 (by decide +kernel)
theorem dX12_init_257 : decode cX12_init 257 = .ok (.dup, 1) := zDc_89 (by decide +kernel)
theorem dX12_init_258 : decode cX12_init 258 = .ok (.bipush 35, 2) := zDc_16 (by decide +kernel)
theorem dX12_init_260 : decode cX12_init 260 = .ok (.bipush 20, 2) := zDc_16 (by decide +kernel)
theorem dX12_init_262 : decode cX12_init 262 = .ok (.iastore, 1) := zDc_79 (by decide +kernel)
theorem dX12_init_263 : decode cX12_init 263 = .ok (.dup, 1) := zDc_89 (by decide +kernel)
theorem dX12_init_264 : decode cX12_init 264 = .ok (.bipush 36, 2) := zDc_16 (by decide +kernel)
theorem dX12_init_266 : decode cX12_init 266 = .ok (.iconst 0, 1) := zDc_3 (by decide +kernel)
theorem dX12_init_267 : decode cX12_init 267 = .ok (.iastore, 1) := zDc_79 (by decide +kernel)
theorem dX12_init_268 : decode cX12_init 268 = .ok (.dup, 1) := zDc_89 (by decide +kernel)
theorem dX12_init_269 : decode cX12_init 269 = .ok (.bipush 37, 2) := zDc_16 (by decide +kernel)
theorem dX12_init_271 : decode cX12_init 271 = .ok (.bipush 13, 2) := zDc_16 (by decide +kernel)
theorem dX12_init_273 : decode cX12_init 273 = .ok (.iastore, 1) := zDc_79 (by decide +kernel)
theorem dX12_init_274 : decode cX12_init 274 = .ok (.dup, 1) := zDc_89 (by decide +kernel)
theorem dX12_init_275 : decode cX12_init 275 = .ok (.bipush 38, 2) := zDc_16 (by decide +kernel)
theorem dX12_init_277 : decode cX12_init 277 = .ok (.bipush 9, 2) := zDc_16 (by decide +kernel)
theorem dX12_init_279 : decode cX12_init 279 = .ok (.iastore, 1) := zDc_79 (by decide +kernel)
theorem dX12_init_280 : decode cX12_init 280 = .ok (.dup, 1) := zDc_89 (by decide +kernel)
theorem dX12_init_281 : decode cX12_init 281 = .ok (.bipush 39, 2) := zDc_16 (by decide +kernel)
theorem dX12_init_283 : decode cX12_init 283 = .ok (.bipush 14, 2) := zDc_16 (by decide +kernel)
theorem dX12_init_285 : decode cX12_init 285 = .ok (.iastore, 1) := zDc_79 (by decide +kernel)
theorem dX12_init_286 : decode cX12_init 286 = .ok (.dup, 1) := zDc_89 (by decide +kernel)
theorem dX12_init_287 : decode cX12_init 287 = .ok (.bipush 40, 2) := zDc_16 (by decide +kernel)
theorem dX12_init_289 : decode cX12_init 289 = .ok (.iconst 0, 1) := zDc_3 (by decide +kernel)
theorem dX12_init_290 : decode cX12_init 290 = .ok (.iastore, 1) := zDc_79 (by decide +kernel)
theorem dX12_init_291 : decode cX12_init 291 = .ok (.dup, 1) := zDc_89 (by decide +kernel)
theorem dX12_init_292 : decode cX12_init 292 = .ok (.bipush 41, 2) := zDc_16 (by decide +kernel)
theorem dX12_init_294 : decode cX12_init 294 = .ok (.bipush 13, 2) := zDc_16 (by decide +kernel)
theorem dX12_init_296 : decode cX12_init 296 = .ok (.iastore, 1) := zDc_79 (by decide +kernel)
theorem dX12_init_297 : decode cX12_init 297 = .ok (.dup, 1) := zDc_89 (by decide +kernel)
theorem dX12_init_298 : decode cX12_init 298 = .ok (.bipush 42, 2) := zDc_16 (by decide +kernel)
theorem dX12_init_300 : decode cX12_init 300 = .ok (.iconst 1, 1) := zDc_4 (by decide +kernel)
theorem dX12_init_301 : decode cX12_init 301 = .ok (.iastore, 1) := zDc_79 (by decide +kernel)
theorem dX12_init_302 : decode cX12_init 302 = .ok (.dup, 1) := zDc_89 (by decide +kernel)
theorem dX12_init_303 : decode cX12_init 303 = .ok (.bipush 43, 2) := zDc_16 (by decide +kernel)
theorem dX12_init_305 : decode cX12_init 305 = .ok (.bipush 24, 2) := zDc_16 (by decide +kernel)
theorem dX12_init_307 : decode cX12_init 307 = .ok (.iastore, 1) := zDc_79 (by decide +kernel)
theorem dX12_init_308 : decode cX12_init 308 = .ok (.dup, 1) := zDc_89 (by decide +kernel)
theorem dX12_init_309 : decode cX12_init 309 = .ok (.bipush 44, 2) := zDc_16 (by decide +kernel)
theorem dX12_init_311 : decode cX12_init 311 = .ok (.iconst 0, 1) := zDc_3 (by decide +kernel)
theorem dX12_init_312 : decode cX12_init 312 = .ok (.iastore, 1) := zDc_79 (by decide +kernel)
theorem dX12_init_313 : decode cX12_init 313 = .ok (.dup, 1) := zDc_89 (by decide +kernel)
theorem dX12_init_314 : decode cX12_init 314 = .ok (.bipush 45, 2) := zDc_16 (by decide +kernel)
theorem dX12_init_316 : decode cX12_init 316 = .ok (.bipush 6, 2) := zDc_16 (by decide +kernel)
theorem dX12_init_318 : decode cX12_init 318 = .ok (.iastore, 1) := zDc_79 (by decide +kernel)
theorem dX12_init_319 : decode cX12_init 319 = .ok (.dup, 1) := zDc_89 (by decide +kernel)
theorem dX12_init_320 : decode cX12_init 320 = .ok (.bipush 46, 2) := zDc_16 (by decide +kernel)
theorem dX12_init_322 : decode cX12_init 322 = .ok (.bipush 9, 2) := zDc_16 (by decide +kernel)
theorem dX12_init_324 : decode cX12_init 324 = .ok (.iastore, 1) := zDc_79 (by decide +kernel)
theorem dX12_init_325 : decode cX12_init 325 = .ok (.dup, 1) := zDc_89 (by decide +kernel)
theorem dX12_init_326 : decode cX12_init 326 = .ok (.bipush 47, 2) := zDc_16 (by decide +kernel)
theorem dX12_init_328 : decode cX12_init 328 = .ok (.bipush 24, 2) := zDc_16 (by decide +kernel)
theorem dX12_init_330 : decode cX12_init 330 = .ok (.iastore, 1) := zDc_79 (by decide +kernel)
theorem dX12_init_331 : decode cX12_init 331 = .ok (.dup, 1) := zDc_89 (by decide +kernel)
theorem dX12_init_332 : decode cX12_init 332 = .ok (.bipush 48, 2) := zDc_16 (by decide +kernel)
theorem dX12_init_334 : decode cX12_init 334 = .ok (.iconst 5, 1) := zDc_8 (by decide +kernel)
theorem dX12_init_335 : decode cX12_init 335 = .ok (.iastore, 1) := zDc_79 (by decide +kernel)
theorem dX12_init_336 : decode cX12_init 336 = .ok (.dup, 1) := zDc_89 (by decide +kernel)
theorem dX12_init_337 : decode cX12_init 337 = .ok (.bipush 49, 2) := zDc_16 (by decide +kernel)
theorem dX12_init_339 : decode cX12_init 339 = .ok (.iconst 4, 1) := zDc_7 (by decide +kernel)
theorem dX12_init_340 : decode cX12_init 340 = .ok (.iastore, 1) := zDc_79 (by decide +kernel)
theorem dX12_init_341 : decode cX12_init 341 = .ok (.dup, 1) := zDc_89 (by decide +kernel)
theorem dX12_init_342 : decode cX12_init 342 = .ok (.bipush 50, 2) := zDc_16 (by decide +kernel)
theorem dX12_init_344 : decode cX12_init 344 = .ok (.iconst 0, 1) := zDc_3 (by decide +kernel)
theorem dX12_init_345 : decode cX12_init 345 = .ok (.iastore, 1) := zDc_79 (by decide +kernel)
theorem dX12_init_346 : decode cX12_init 346 = .ok (.dup, 1) := zDc_89 (by decide +kernel)
theorem dX12_init_347 : decode cX12_init 347 = .ok (.bipush 51, 2) := zDc_16 (by decide +kernel)
theorem dX12_init_349 : decode cX12_init 349 = .ok (.bipush 7, 2) := zDc_16 (by decide +kernel)
theorem dX12_init_351 : decode cX12_init 351 = .ok (.iastore, 1) := zDc_79 (by decide +kernel)
theorem dX12_init_352 : decode cX12_init 352 = .ok (.dup, 1) := zDc_89 (by decide +kernel)
theorem dX12_init_353 : decode cX12_init 353 = .ok (.bipush 52, 2) := zDc_16 (by decide +kernel)
theorem dX12_init_355 : decode cX12_init 355 = .ok (.bipush 18, 2) := zDc_16 (by decide +kernel)
theorem dX12_init_357 : decode cX12_init 357 = .ok (.iastore, 1) := zDc_79 (by decide +kernel)
theorem dX12_init_358 : decode cX12_init 358 = .ok (.dup, 1) := zDc_89 (by decide +kernel)
theorem dX12_init_359 : decode cX12_init 359 = .ok (.bipush 53, 2) := zDc_16 (by decide +kernel)
theorem dX12_init_361 : decode cX12_init 361 = .ok (.bipush 15, 2) := zDc_16 (by decide +kernel)
theorem dX12_init_363 : decode cX12_init 363 = .ok (.iastore, 1) := zDc_79 (by decide +kernel)
theorem dX12_init_364 : decode cX12_init 364 = .ok (.dup, 1) := zDc_89 (by decide +kernel)
theorem dX12_init_365 : decode cX12_init 365 = .ok (.bipush 54, 2) := zDc_16 (by decide +kernel)
theorem dX12_init_367 : decode cX12_init 367 = .ok (.bipush 21, 2) := zDc_16 (by decide +kernel)
theorem dX12_init_369 : decode cX12_init 369 = .ok (.iastore, 1) := zDc_79 (by decide +kernel)
theorem dX12_init_370 : decode cX12_init 370 = .ok (.dup, 1) := zDc_89 (by decide +kernel)
theorem dX12_init_371 : decode cX12_init 371 = .ok (.bipush 55, 2) := zDc_16 (by decide +kernel)
theorem dX12_init_373 : decode cX12_init 373 = .ok (.bipush 16, 2) := zDc_16 (by decide +kernel)
theorem dX12_init_375 : decode cX12_init 375 = .ok (.iastore, 1) := zDc_79 (by decide +kernel)
theorem dX12_init_376 : decode cX12_init 376 = .ok (.dup, 1) := zDc_89 (by decide +kernel)
theorem dX12_init_377 : decode cX12_init 377 = .ok (.bipush 56, 2) := zDc_16 (by decide +kernel)
theorem dX12_init_379 : decode cX12_init 379 = .ok (.iconst 0, 1) := zDc_3 (by decide +kernel)
theorem dX12_init_380 : decode cX12_init 380 = .ok (.iastore, 1) := zDc_79 (by decide +kernel)
theorem dX12_init_381 : decode cX12_init 381 = .ok (.dup, 1) := zDc_89 (by decide +kernel)
theorem dX12_init_382 : decode cX12_init 382 = .ok (.bipush 57, 2) := zDc_16 (by decide +kernel)
theorem dX12_init_384 : decode cX12_init 384 = .ok (.iconst 1, 1) := zDc_4 (by decide +kernel)
theorem dX12_init_385 : decode cX12_init 385 = .ok (.iastore, 1) := zDc_79 (by decide +kernel)
theorem dX12_init_386 : decode cX12_init 386 = .ok (.dup, 1) := zDc_89 (by decide +kernel)
theorem dX12_init_387 : decode cX12_init 387 = .ok (.bipush 58, 2) := zDc_16 (by decide +kernel)
theorem dX12_init_389 : decode cX12_init 389 = .ok (.bipush 14, 2) := zDc_16 (by decide +kernel)
theorem dX12_init_391 : decode cX12_init 391 = .ok (.iastore, 1) := zDc_79 (by decide +kernel)
theorem dX12_init_392 : decode cX12_init 392 = .ok (.dup, 1) := zDc_89 (by decide +kernel)
theorem dX12_init_393 : decode cX12_init 393 = .ok (.bipush 59, 2) := zDc_16 (by decide +kernel)
theorem dX12_init_395 : decode cX12_init 395 = .ok (.bipush 19, 2) := zDc_16 (by decide +kernel)
theorem dX12_init_397 : decode cX12_init 397 = .ok (.iastore, 1) := zDc_79 (by decide +kernel)
theorem dX12_init_398 : decode cX12_init 398 = .ok (.dup, 1) := zDc_89 (by decide +kernel)
theorem dX12_init_399 : decode cX12_init 399 = .ok (.bipush 60, 2) := zDc_16 (by decide +kernel)
theorem dX12_init_401 : decode cX12_init 401 = .ok (.bipush 23, 2) := zDc_16 (by decide +kernel)
theorem dX12_init_403 : decode cX12_init 403 = .ok (.iastore, 1) := zDc_79 (by decide +kernel)
theorem dX12_init_404 : decode cX12_init 404 = .ok (.dup, 1) := zDc_89 (by decide +kernel)
theorem dX12_init_405 : decode cX12_init 405 = .ok (.bipush 61, 2) := zDc_16 (by decide +kernel)
theorem dX12_init_407 : decode cX12_init 407 = .ok (.iconst 5, 1) := zDc_8 (by decide +kernel)
theorem dX12_init_408 : decode cX12_init 408 = .ok (.iastore, 1) := zDc_79 (by decide +kernel)
theorem dX12_init_409 : decode cX12_init 409 = .ok (.dup, 1) := zDc_89 (by decide +kernel)
theorem dX12_init_410 : decode cX12_init 410 = .ok (.bipush 62, 2) := zDc_16 (by decide +kernel)
theorem dX12_init_412 : decode cX12_init 412 = .ok (.bipush 18, 2) := zDc_16 (by decide +kernel)
theorem dX12_init_414 : decode cX12_init 414 = .ok (.iastore, 1) := zDc_79 (by decide +kernel)
theorem dX12_init_415 : decode cX12_init 415 = .ok (.dup, 1) := zDc_89 (by decide +kernel)
theorem dX12_init_416 : decode cX12_init 416 = .ok (.bipush 63, 2) := zDc_16 (by decide +kernel)
theorem dX12_init_418 : decode cX12_init 418 = .ok (.iconst 0, 1) := zDc_3 (by decide +kernel)
theorem dX12_init_419 : decode cX12_init 419 = .ok (.iastore, 1) := zDc_79 (by decide +kernel)
theorem dX12_init_420 : decode cX12_init 420 = .ok (.dup, 1) := zDc_89 (by decide +kernel)
theorem dX12_init_421 : decode cX12_init 421 = .ok (.bipush 64, 2) := zDc_16 (by decide +kernel)
theorem dX12_init_423 : decode cX12_init 423 = .ok (.bipush 23, 2) := zDc_16 (by decide +kernel)
theorem dX12_init_425 : decode cX12_init 425 = .ok (.iastore, 1) := zDc_79 (by decide +kernel)
theorem dX12_init_426 : decode cX12_init 426 = .ok (.dup, 1) := zDc_89 (by decide +kernel)
theorem dX12_init_427 : decode cX12_init 427 = .ok (.bipush 65, 2) := zDc_16 (by decide +kernel)
theorem dX12_init_429 : decode cX12_init 429 = .ok (.bipush 9, 2) := zDc_16 (by decide +kernel)
theorem dX12_init_431 : decode cX12_init 431 = .ok (.iastore, 1) := zDc_79 (by decide +kernel)
theorem dX12_init_432 : decode cX12_init 432 = .ok (.dup, 1) := zDc_89 (by decide +kernel)
theorem dX12_init_433 : decode cX12_init 433 = .ok (.bipush 66, 2) := zDc_16 (by decide +kernel)
theorem dX12_init_435 : decode cX12_init 435 = .ok (.bipush 20, 2) := zDc_16 (by decide +kernel)
theorem dX12_init_437 : decode cX12_init 437 = .ok (.iastore, 1) := zDc_79 (by decide +kernel)
theorem dX12_init_438 : decode cX12_init 438 = .ok (.dup, 1) := zDc_89 (by decide +kernel)
theorem dX12_init_439 : decode cX12_init 439 = .ok (.bipush 67, 2) := zDc_16 (by decide +kernel)
theorem dX12_init_441 : decode cX12_init 441 = .ok (.bipush 8, 2) := zDc_16 (by decide +kernel)
theorem dX12_init_443 : decode cX12_init 443 = .ok (.iastore, 1) := zDc_79 (by decide +kernel)
theorem dX12_init_444 : decode cX12_init 444 = .ok (.dup, 1) := zDc_89 (by decide +kernel)
theorem dX12_init_445 : decode cX12_init 445 = .ok (.bipush 68, 2) := zDc_16 (by decide +kernel)
theorem dX12_init_447 : decode cX12_init 447 = .ok (.bipush 9, 2) := zDc_16 (by decide +kernel)
theorem dX12_init_449 : decode cX12_init 449 = .ok (.iastore, 1) := zDc_79 (by decide +kernel)
theorem dX12_init_450 : decode cX12_init 450 = .ok (.dup, 1) := zDc_89 (by decide +kernel)
theorem dX12_init_451 : decode cX12_init 451 = .ok (.bipush 69, 2) := zDc_16 (by decide +kernel)
theorem dX12_init_453 : decode cX12_init 453 = .ok (.bipush 14, 2) := zDc_16 (by decide +kernel)
theorem dX12_init_455 : decode cX12_init 455 = .ok (.iastore, 1) := zDc_79 (by decide +kernel)
theorem dX12_init_456 : decode cX12_init 456 = .ok (.dup, 1) := zDc_89 (by decide +kernel)
theorem dX12_init_457 : decode cX12_init 457 = .ok (.bipush 70, 2) := zDc_16 (by decide +kernel)
theorem dX12_init_459 : decode cX12_init 459 = .ok (.iconst 0, 1) := zDc_3 (by decide +kernel)
theorem dX12_init_460 : decode cX12_init 460 = .ok (.iastore, 1) := zDc_79 (by decide +kernel)
theorem dX12_init_461 : decode cX12_init 461 = .ok (.putfield 41, 3) := zDc_181 (by decide +kernel)
theorem dX12_init_464 : decode cX12_init 464 = .ok (.aload_n 0, 1) := zDc_42 (by decide +kernel)
theorem dX12_init_465 : decode cX12_init 465 = .ok (.iconst 0, 1) := zDc_3 (by decide +kernel)
theorem dX12_init_466 : decode cX12_init 466 = .ok (.putfield 44, 3) := zDc_181 (by decide +kernel)
theorem dX12_init_469 : decode cX12_init 469 = .ok (.aload_n 0, 1) := zDc_42 (by decide +kernel)
theorem dX12_init_470 : decode cX12_init 470 = .ok (.iconst 2, 1) := zDc_5 (by decide +kernel)
theorem dX12_init_471 : decode cX12_init 471 = .ok (.newarray .int, 2) := zDc_188_10 (by decide +kernel)
theorem dX12_init_473 : decode cX12_init 473 = .ok (.putfield 47, 3) := zDc_181 (by decide +kernel)
theorem dX12_init_476 : decode cX12_init 476 = .ok (.aload_n 0, 1) := zDc_42 (by decide +kernel)
theorem dX12_init_477 : decode cX12_init 477 = .ok (.bipush 8, 2) := zDc_16 (by decide +kernel)
theorem dX12_init_479 : decode cX12_init 479 = .ok (.newarray .int, 2) := zDc_188_10 (by decide +kernel)
theorem dX12_init_481 : decode cX12_init 481 = .ok (.putfield 50, 3) := zDc_181 (by decide +kernel)
theorem dX12_init_484 : decode cX12_init 484 = .ok (.aload_n 0, 1) := zDc_42 (by decide +kernel)
theorem dX12_init_485 : decode cX12_init 485 = .ok (.bipush 8, 2) := zDc_16 (by decide +kernel)
theorem dX12_init_487 : decode cX12_init 487 = .ok (.newarray .int, 2) := zDc_188_10 (by decide +kernel)
theorem dX12_init_489 : decode cX12_init 489 = .ok (.putfield 53, 3) := zDc_181 (by decide +kernel)
theorem dX12_init_492 : decode cX12_init 492 = .ok (.aload_n 0, 1) := zDc_42 (by decide +kernel)
theorem dX12_init_493 : decode cX12_init 493 = .ok (.bipush 8, 2) := zDc_16 (by decide +kernel)
theorem dX12_init_495 : decode cX12_init 495 = .ok (.newarray .int, 2) := zDc_188_10 (by decide +kernel)
theorem dX12_init_497 : decode cX12_init 497 = .ok (.putfield 56, 3) := zDc_181 (by decide +kernel)
theorem dX12_init_500 : decode cX12_init 500 = .ok (.aload_n 0, 1) := zDc_42 (by decide +kernel)
theorem dX12_init_501 : decode cX12_init 501 = .ok (.bipush 8, 2) := zDc_16 (by decide +kernel)
theorem dX12_init_503 : decode cX12_init 503 = .ok (.newarray .int, 2) := zDc_188_10 (by decide +kernel)
theorem dX12_init_505 : decode cX12_init 505 = .ok (.putfield 59, 3) := zDc_181 (by decide +kernel)
theorem dX12_init_508 : decode cX12_init 508 = .ok (.aload_n 0, 1) := zDc_42 (by decide +kernel)
theorem dX12_init_509 : decode cX12_init 509 = .ok (.iconst 2, 1) := zDc_5 (by decide +kernel)
theorem dX12_init_510 : decode cX12_init 510 = .ok (.newarray .int, 2) := zDc_188_10 (by decide +kernel)
theorem dX12_init_512 : decode cX12_init 512 = .ok (.putfield 62, 3) := zDc_181 (by decide +kernel)
theorem dX12_init_515 : decode cX12_init 515 = .ok (.aload_n 0, 1) := zDc_42 (by decide +kernel)
theorem dX12_init_516 : decode cX12_init 516 = .ok (.bipush 28, 2) := zDc_16 (by decide +kernel)
theorem dX12_init_518 : decode cX12_init 518 = .ok (.newarray .int, 2) := zDc_188_10 (by decide +kernel)
theorem dX12_init_520 : decode cX12_init 520 = .ok (.putfield 65, 3) := zDc_181 (by decide +kernel)
theorem dX12_init_523 : decode cX12_init 523 = .ok (.aload_n 0, 1) := zDc_42 (by decide +kernel)
theorem dX12_init_524 : decode cX12_init 524 = .ok (.bipush 28, 2) := zDc_16 (by decide +kernel)
theorem dX12_init_526 : decode cX12_init 526 = .ok (.newarray .int, 2) := zDc_188_10 (by decide +kernel)
theorem dX12_init_528 : decode cX12_init 528 = .ok (.putfield 68, 3) := zDc_181 (by decide +kernel)
theorem dX12_init_531 : decode cX12_init 531 = .ok (.aload_n 0, 1) := zDc_42 (by decide +kernel)
theorem dX12_init_532 : decode cX12_init 532 = .ok (.bipush 28, 2) := zDc_16 (by decide +kernel)
theorem dX12_init_534 : decode cX12_init 534 = .ok (.newarray .int, 2) := zDc_188_10 (by decide +kernel)
theorem dX12_init_536 : decode cX12_init 536 = .ok (.putfield 71, 3) := zDc_181 (by decide +kernel)
theorem dX12_init_539 : decode cX12_init 539 = .ok (.aload_n 0, 1) := zDc_42 (by decide +kernel)
theorem dX12_init_540 : decode cX12_init 540 = .ok (.bipush 28, 2) := zDc_16 (by decide +kernel)
theorem dX12_init_542 : decode cX12_init 542 = .ok (.newarray .int, 2) := zDc_188_10 (by decide +kernel)
theorem dX12_init_544 : decode cX12_init 544 = .ok (.putfield 74, 3) := zDc_181 (by decide +kernel)
theorem dX12_init_547 : decode cX12_init 547 = .ok (.aload_n 0, 1) := zDc_42 (by decide +kernel)
theorem dX12_init_548 : decode cX12_init 548 = .ok (.bipush 28, 2) := zDc_16 (by decide +kernel)
theorem dX12_init_550 : decode cX12_init 550 = .ok (.newarray .long, 2) := zDc_188_11 (by decide +kernel)
theorem dX12_init_552 : decode cX12_init 552 = .ok (.putfield 77, 3) := zDc_181 (by decide +kernel)
theorem dX12_init_555 : decode cX12_init 555 = .ok (.aload_n 0, 1) := zDc_42 (by decide +kernel)
theorem dX12_init_556 : decode cX12_init 556 = .ok (.bipush 28, 2) := zDc_16 (by decide +kernel)
theorem dX12_init_558 : decode cX12_init 558 = .ok (.newarray .long, 2) := zDc_188_11 (by decide +kernel)
theorem dX12_init_560 : decode cX12_init 560 = .ok (.putfield 81, 3) := zDc_181 (by decide +kernel)
theorem dX12_init_563 : decode cX12_init 563 = .ok (.aload_n 0, 1) := zDc_42 (by decide +kernel)
theorem dX12_init_564 : decode cX12_init 564 = .ok (.iconst 2, 1) := zDc_5 (by decide +kernel)
theorem dX12_init_565 : decode cX12_init 565 = .ok (.newarray .int, 2) := zDc_188_10 (by decide +kernel)
theorem dX12_init_567 : decode cX12_init 567 = .ok (.putfield 84, 3) := zDc_181 (by decide +kernel)
theorem dX12_init_570 : decode cX12_init 570 = .ok (.aload_n 0, 1) := zDc_42 (by decide +kernel)
theorem dX12_init_571 : decode cX12_init 571 = .ok (.bipush 28, 2) := zDc_16 (by decide +kernel)
theorem dX12_init_573 : decode cX12_init 573 = .ok (.newarray .int, 2) := zDc_188_10 (by decide +kernel)
theorem dX12_init_575 : decode cX12_init 575 = .ok (.putfield 87, 3) := zDc_181 (by decide +kernel)
theorem dX12_init_578 : decode cX12_init 578 = .ok (.aload_n 0, 1) := zDc_42 (by decide +kernel)
theorem dX12_init_579 : decode cX12_init 579 = .ok (.bipush 28, 2) := zDc_16 (by decide +kernel)
theorem dX12_init_581 : decode cX12_init 581 = .ok (.newarray .int, 2) := zDc_188_10 (by decide +kernel)
theorem dX12_init_583 : decode cX12_init 583 = .ok (.putfield 90, 3) := zDc_181 (by decide +kernel)
theorem dX12_init_586 : decode cX12_init 586 = .ok (.aload_n 0, 1) := zDc_42 (by decide +kernel)
theorem dX12_init_587 : decode cX12_init 587 = .ok (.bipush 28, 2) := zDc_16 (by decide +kernel)
theorem dX12_init_589 : decode cX12_init 589 = .ok (.newarray .int, 2) := zDc_188_10 (by decide +kernel)
theorem dX12_init_591 : decode cX12_init 591 = .ok (.putfield 93, 3) := zDc_181 (by decide +kernel)
theorem dX12_init_594 : decode cX12_init 594 = .ok (.aload_n 0, 1) := zDc_42 (by decide +kernel)
theorem dX12_init_595 : decode cX12_init 595 = .ok (.lconst 0, 1) := zDc_9 (by decide +kernel)
theorem dX12_init_596 : decode cX12_init 596 = .ok (.putfield 96, 3) := zDc_181 (by decide +kernel)
theorem dX12_init_599 : decode cX12_init 599 = .ok (.aload_n 0, 1) := zDc_42 (by decide +kernel)
theorem dX12_init_600 : decode cX12_init 600 = .ok (.bipush 14, 2) := zDc_16 (by decide +kernel)
theorem dX12_init_602 : decode cX12_init 602 = .ok (.newarray .int, 2) := zDc_188_10 (by decide +kernel)
theorem dX12_init_604 : decode cX12_init 604 = .ok (.putfield 100, 3) := zDc_181 (by decide +kernel)
theorem dX12_init_607 : decode cX12_init 607 = .ok (.aload_n 0, 1) := zDc_42 (by decide +kernel)
theorem dX12_init_608 : decode cX12_init 608 = .ok (.iconst 0, 1) := zDc_3 (by decide +kernel)
theorem dX12_init_609 : decode cX12_init 609 = .ok (.putfield 103, 3) := zDc_181 (by decide +kernel)
theorem dX12_init_612 : decode cX12_init 612 = .ok (.aload_n 0, 1) := zDc_42 (by decide +kernel)
theorem dX12_init_613 : decode cX12_init 613 = .ok (.bipush 14, 2) := zDc_16 (by decide +kernel)
theorem dX12_init_615 : decode cX12_init 615 = .ok (.newarray .long, 2) := zDc_188_11 (by decide +kernel)
theorem dX12_init_617 : decode cX12_init 617 = .ok (.putfield 106, 3) := zDc_181 (by decide +kernel)
theorem dX12_init_620 : decode cX12_init 620 = .ok (.aload_n 0, 1) := zDc_42 (by decide +kernel)
theorem dX12_init_621 : decode cX12_init 621 = .ok (.bipush 14, 2) := zDc_16 (by decide +kernel)
theorem dX12_init_623 : decode cX12_init 623 = .ok (.newarray .long, 2) := zDc_188_11 (by decide +kernel)
theorem dX12_init_625 : decode cX12_init 625 = .ok (.putfield 109, 3) := zDc_181 (by decide +kernel)
theorem dX12_init_628 : decode cX12_init 628 = .ok (.aload_n 0, 1) := zDc_42 (by decide +kernel)
theorem dX12_init_629 : decode cX12_init 629 = .ok (.iconst (-1), 1) := zDc_2 (by decide +kernel)
theorem dX12_init_630 : decode cX12_init 630 = .ok (.putfield 112, 3) := zDc_181 (by decide +kernel)
theorem dX12_init_633 : decode cX12_init 633 = .ok (.aload_n 0, 1) := zDc_42 (by decide +kernel)
theorem dX12_init_634 : decode cX12_init 634 = .ok (.lconst 0, 1) := zDc_9 (by decide +kernel)
theorem dX12_init_635 : decode cX12_init 635 = .ok (.putfield 115, 3) := zDc_181 (by decide +kernel)
theorem dX12_init_638 : decode cX12_init 638 = .ok (.aload_n 0, 1) := zDc_42 (by decide +kernel)
theorem dX12_init_639 : decode cX12_init 639 = .ok (.bipush 14, 2) := zDc_16 (by decide +kernel)
theorem dX12_init_641 : decode cX12_init 641 = .ok (.newarray .boolean, 2) := zDc_188_4 (by decide +kernel)
theorem dX12_init_643 : decode cX12_init 643 = .ok (.putfield 118, 3) := zDc_181 (by decide +kernel)
theorem dX12_init_646 : decode cX12_init 646 = .ok (.aload_n 0, 1) := zDc_42 (by decide +kernel)
theorem dX12_init_647 : decode cX12_init 647 = .ok (.bipush 14, 2) := zDc_16 (by decide +kernel)
theorem dX12_init_649 : decode cX12_init 649 = .ok (.newarray .int, 2) := zDc_188_10 (by decide +kernel)
theorem dX12_init_651 : decode cX12_init 651 = .ok (.putfield 122, 3) := zDc_181 (by decide +kernel)
theorem dX12_init_654 : decode cX12_init 654 = .ok (.aload_n 0, 1) := zDc_42 (by decide +kernel)
theorem dX12_init_655 : decode cX12_init 655 = .ok (.bipush 14, 2) := zDc_16 (by decide +kernel)
theorem dX12_init_657 : decode cX12_init 657 = .ok (.newarray .int, 2) := zDc_188_10 (by decide +kernel)
theorem dX12_init_659 : decode cX12_init 659 = .ok (.putfield 125, 3) := zDc_181 (by decide +kernel)
theorem dX12_init_662 : decode cX12_init 662 = .ok (.aload_n 0, 1) := zDc_42 (by decide +kernel)
theorem dX12_init_663 : decode cX12_init 663 = .ok (.iconst 0, 1) := zDc_3 (by decide +kernel)
theorem dX12_init_664 : decode cX12_init 664 = .ok (.putfield 128, 3) := zDc_181 (by decide +kernel)
theorem dX12_init_667 : decode cX12_init 667 = .ok (.aload_n 0, 1) := zDc_42 (by decide +kernel)
theorem dX12_init_668 : decode cX12_init 668 = .ok (.bipush 14, 2) := zDc_16 (by decide +kernel)
theorem dX12_init_670 : decode cX12_init 670 = .ok (.newarray .int, 2) := zDc_188_10 (by decide +kernel)
theorem dX12_init_672 : decode cX12_init 672 = .ok (.putfield 132, 3) := zDc_181 (by decide +kernel)
theorem dX12_init_675 : decode cX12_init 675 = .ok (.aload_n 0, 1) := zDc_42 (by decide +kernel)
theorem dX12_init_676 : decode cX12_init 676 = .ok (.bipush 14, 2) := zDc_16 (by decide +kernel)
theorem dX12_init_678 : decode cX12_init 678 = .ok (.newarray .long, 2) := zDc_188_11 (by decide +kernel)
theorem dX12_init_680 : decode cX12_init 680 = .ok (.putfield 135, 3) := zDc_181 (by decide +kernel)
theorem dX12_init_683 : decode cX12_init 683 = .ok (.aload_n 0, 1) := zDc_42 (by decide +kernel)
theorem dX12_init_684 : decode cX12_init 684 = .ok (.bipush (-2), 2) := zDc_16 (by decide +kernel)
theorem dX12_init_686 : decode cX12_init 686 = .ok (.putfield 138, 3) := zDc_181 (by decide +kernel)
theorem dX12_init_689 : decode cX12_init 689 = .ok (.aload_n 0, 1) := zDc_42 (by decide +kernel)
theorem dX12_init_690 : decode cX12_init 690 = .ok (.iconst 0, 1) := zDc_3 (by decide +kernel)
theorem dX12_init_691 : decode cX12_init 691 = .ok (.putfield 141, 3) := zDc_181 (by decide +kernel)
theorem dX12_init_694 : decode cX12_init 694 = .ok (.aload_n 0, 1) := zDc_42 (by decide +kernel)
theorem dX12_init_695 : decode cX12_init 695 = .ok (.bipush 14, 2) := zDc_16 (by decide +kernel)
theorem dX12_init_697 : decode cX12_init 697 = .ok (.newarray .int, 2) := zDc_188_10 (by decide +kernel)
theorem dX12_init_699 : decode cX12_init 699 = .ok (.putfield 144, 3) := zDc_181 (by decide +kernel)
theorem dX12_init_702 : decode cX12_init 702 = .ok (.aload_n 0, 1) := zDc_42 (by decide +kernel)
theorem dX12_init_703 : decode cX12_init 703 = .ok (.iconst 0, 1) := zDc_3 (by decide +kernel)
theorem dX12_init_704 : decode cX12_init 704 = .ok (.putfield 147, 3) := zDc_181 (by decide +kernel)
theorem dX12_init_707 : decode cX12_init 707 = .ok (.aload_n 0, 1) := zDc_42 (by decide +kernel)
theorem dX12_init_708 : decode cX12_init 708 = .ok (.iconst 0, 1) := zDc_3 (by decide +kernel)
theorem dX12_init_709 : decode cX12_init 709 = .ok (.putfield 150, 3) := zDc_181 (by decide +kernel)
theorem dX12_init_712 : decode cX12_init 712 = .ok (.aload_n 0, 1) := zDc_42 (by decide +kernel)
theorem dX12_init_713 : decode cX12_init 713 = .ok (.bipush 14, 2) := zDc_16 (by decide +kernel)
theorem dX12_init_715 : decode cX12_init 715 = .ok (.newarray .boolean, 2) := zDc_188_4 (by decide +kernel)
theorem dX12_init_717 : decode cX12_init 717 = .ok (.putfield 153, 3) := zDc_181 (by decide +kernel)
theorem dX12_init_720 : decode cX12_init 720 = .ok (.aload_n 0, 1) := zDc_42 (by decide +kernel)
theorem dX12_init_721 : decode cX12_init 721 = .ok (.bipush 14, 2) := zDc_16 (by decide +kernel)
theorem dX12_init_723 : decode cX12_init 723 = .ok (.newarray .int, 2) := zDc_188_10 (by decide +kernel)
theorem dX12_init_725 : decode cX12_init 725 = .ok (.putfield 156, 3) := zDc_181 (by decide +kernel)
theorem dX12_init_728 : decode cX12_init 728 = .ok (.aload_n 0, 1) := zDc_42 (by decide +kernel)
theorem dX12_init_729 : decode cX12_init 729 = .ok (.bipush 64, 2) := zDc_16 (by decide +kernel)
theorem dX12_init_731 : decode cX12_init 731 = .ok (.newarray .int, 2) := zDc_188_10 (by decide +kernel)
theorem dX12_init_733 : decode cX12_init 733 = .ok (.putfield 159, 3) := zDc_181 (by decide +kernel)
theorem dX12_init_736 : decode cX12_init 736 = .ok (.aload_n 0, 1) := zDc_42 (by decide +kernel)
theorem dX12_init_737 : decode cX12_init 737 = .ok (.bipush 64, 2) := zDc_16 (by decide +kernel)
theorem dX12_init_739 : decode cX12_init 739 = .ok (.newarray .int, 2) := zDc_188_10 (by decide +kernel)
theorem dX12_init_741 : decode cX12_init 741 = .ok (.putfield 162, 3) := zDc_181 (by decide +kernel)
theorem dX12_init_744 : decode cX12_init 744 = .ok (.aload_n 0, 1) := zDc_42 (by decide +kernel)
theorem dX12_init_745 : decode cX12_init 745 = .ok (.iconst 0, 1) := zDc_3 (by decide +kernel)
theorem dX12_init_746 : decode cX12_init 746 = .ok (.putfield 165, 3) := zDc_181 (by decide +kernel)
theorem dX12_init_749 : decode cX12_init 749 = .ok (.aload_n 0, 1) := zDc_42 (by decide +kernel)
theorem dX12_init_750 : decode cX12_init 750 = .ok (.iconst 0, 1) := zDc_3 (by decide +kernel)
theorem dX12_init_751 : decode cX12_init 751 = .ok (.putfield 168, 3) := zDc_181 (by decide +kernel)
theorem dX12_init_754 : decode cX12_init 754 = .ok (.aload_n 0, 1) := zDc_42 (by decide +kernel)
theorem dX12_init_755 : decode cX12_init 755 = .ok (.iconst (-1), 1) := zDc_2 (by decide +kernel)
theorem dX12_init_756 : decode cX12_init 756 = .ok (.putfield 171, 3) := zDc_181 (by decide +kernel)
theorem dX12_init_759 : decode cX12_init 759 = .ok (.aload_n 0, 1) := zDc_42 (by decide +kernel)
theorem dX12_init_760 : decode cX12_init 760 = .ok (.iconst (-1), 1) := zDc_2 (by decide +kernel)
theorem dX12_init_761 : decode cX12_init 761 = .ok (.putfield 174, 3) := zDc_181 (by decide +kernel)
theorem dX12_init_764 : decode cX12_init 764 = .ok (.aload_n 0, 1) := zDc_42 (by decide +kernel)
theorem dX12_init_765 : decode cX12_init 765 = .ok (.sipush 1024, 3) := zDc_17 (by decide +kernel)
theorem dX12_init_768 : decode cX12_init 768 = .ok (.newarray .int, 2) := zDc_188_10 (by decide +kernel)
theorem dX12_init_770 : decode cX12_init 770 = .ok (.putfield 177, 3) := zDc_181 (by decide +kernel)
theorem dX12_init_773 : decode cX12_init 773 = .ok (.aload_n 0, 1) := zDc_42 (by decide +kernel)
theorem dX12_init_774 : decode cX12_init 774 = .ok (.sipush 1024, 3) := zDc_17 (by decide +kernel)
theorem dX12_init_777 : decode cX12_init 777 = .ok (.newarray .long, 2) := zDc_188_11 (by decide +kernel)
theorem dX12_init_779 : decode cX12_init 779 = .ok (.putfield 180, 3) := zDc_181 (by decide +kernel)
theorem dX12_init_782 : decode cX12_init 782 = .ok (.aload_n 0, 1) := zDc_42 (by decide +kernel)
theorem dX12_init_783 : decode cX12_init 783 = .ok (.sipush 1024, 3) := zDc_17 (by decide +kernel)
theorem dX12_init_786 : decode cX12_init 786 = .ok (.newarray .int, 2) := zDc_188_10 (by decide +kernel)
theorem dX12_init_788 : decode cX12_init 788 = .ok (.putfield 183, 3) := zDc_181 (by decide +kernel)
theorem dX12_init_791 : decode cX12_init 791 = .ok (.aload_n 0, 1) := zDc_42 (by decide +kernel)
theorem dX12_init_792 : decode cX12_init 792 = .ok (.iconst 0, 1) := zDc_3 (by decide +kernel)
theorem dX12_init_793 : decode cX12_init 793 = .ok (.putfield 186, 3) := zDc_181 (by decide +kernel)
theorem dX12_init_796 : decode cX12_init 796 = .ok (.aload_n 0, 1) := zDc_42 (by decide +kernel)
theorem dX12_init_797 : decode cX12_init 797 = .ok (.iconst (-1), 1) := zDc_2 (by decide +kernel)
theorem dX12_init_798 : decode cX12_init 798 = .ok (.putfield 189, 3) := zDc_181 (by decide +kernel)
theorem dX12_init_801 : decode cX12_init 801 = .ok (.aload_n 0, 1) := zDc_42 (by decide +kernel)
theorem dX12_init_802 : decode cX12_init 802 = .ok (.iconst (-1), 1) := zDc_2 (by decide +kernel)
theorem dX12_init_803 : decode cX12_init 803 = .ok (.putfield 192, 3) := zDc_181 (by decide +kernel)
theorem dX12_init_806 : decode cX12_init 806 = .ok (.aload_n 0, 1) := zDc_42 (by decide +kernel)
theorem dX12_init_807 : decode cX12_init 807 = .ok (.bipush 14, 2) := zDc_16 (by decide +kernel)
theorem dX12_init_809 : decode cX12_init 809 = .ok (.newarray .int, 2) := zDc_188_10 (by decide +kernel)
theorem dX12_init_811 : decode cX12_init 811 = .ok (.putfield 195, 3) := zDc_181 (by decide +kernel)
theorem dX12_init_814 : decode cX12_init 814 = .ok (.aload_n 0, 1) := zDc_42 (by decide +kernel)
theorem dX12_init_815 : decode cX12_init 815 = .ok (.bipush 14, 2) := zDc_16 (by decide +kernel)
theorem dX12_init_817 : decode cX12_init 817 = .ok (.newarray .long, 2) := zDc_188_11 (by decide +kernel)
theorem dX12_init_819 : decode cX12_init 819 = .ok (.putfield 198, 3) := zDc_181 (by decide +kernel)
theorem dX12_init_822 : decode cX12_init 822 = .ok (.aload_n 0, 1) := zDc_42 (by decide +kernel)
theorem dX12_init_823 : decode cX12_init 823 = .ok (.bipush 14, 2) := zDc_16 (by decide +kernel)
theorem dX12_init_825 : decode cX12_init 825 = .ok (.newarray .long, 2) := zDc_188_11 (by decide +kernel)
theorem dX12_init_827 : decode cX12_init 827 = .ok (.putfield 201, 3) := zDc_181 (by decide +kernel)
theorem dX12_init_830 : decode cX12_init 830 = .ok (.aload_n 0, 1) := zDc_42 (by decide +kernel)
theorem dX12_init_831 : decode cX12_init 831 = .ok (.bipush 14, 2) := zDc_16 (by decide +kernel)
theorem dX12_init_833 : decode cX12_init 833 = .ok (.newarray .long, 2) := zDc_188_11 (by decide +kernel)
theorem dX12_init_835 : decode cX12_init 835 = .ok (.putfield 204, 3) := zDc_181 (by decide +kernel)
theorem dX12_init_838 : decode cX12_init 838 = .ok (.aload_n 0, 1) := zDc_42 (by decide +kernel)
theorem dX12_init_839 : decode cX12_init 839 = .ok (.iconst 1, 1) := zDc_4 (by decide +kernel)
theorem dX12_init_840 : decode cX12_init 840 = .ok (.putfield 207, 3) := zDc_181 (by decide +kernel)
theorem dX12_init_843 : decode cX12_init 843 = .ok (.aload_n 0, 1) := zDc_42 (by decide +kernel)
theorem dX12_init_844 : decode cX12_init 844 = .ok (.bipush 14, 2) := zDc_16 (by decide +kernel)
theorem dX12_init_846 : decode cX12_init 846 = .ok (.newarray .long, 2) := zDc_188_11 (by decide +kernel)
theorem dX12_init_848 : decode cX12_init 848 = .ok (.putfield 210, 3) := zDc_181 (by decide +kernel)
theorem dX12_init_851 : decode cX12_init 851 = .ok (.aload_n 0, 1) := zDc_42 (by decide +kernel)
theorem dX12_init_852 : decode cX12_init 852 = .ok (.bipush 14, 2) := zDc_16 (by decide +kernel)
theorem dX12_init_854 : decode cX12_init 854 = .ok (.newarray .long, 2) := zDc_188_11 (by decide +kernel)
theorem dX12_init_856 : decode cX12_init 856 = .ok (.putfield 213, 3) := zDc_181 (by decide +kernel)
theorem dX12_init_859 : decode cX12_init 859 = .ok (.return_, 1) := zDc_177 (by decide +kernel)
theorem dJ0_length_8abf5_0 : decode cJ0_length_8abf5 0 = .ok (.aload_n 0, 1) := zDc_42 (by decide +kernel)
theorem dJ0_length_8abf5_1 : decode cJ0_length_8abf5 1 = .ok (.getfield 9, 3) := zDc_180 (by decide +kernel)
theorem dJ0_length_8abf5_4 : decode cJ0_length_8abf5 4 = .ok (.arraylength, 1) := zDc_190 (by decide +kernel)
theorem dJ0_length_8abf5_5 : decode cJ0_length_8abf5 5 = .ok (.aload_n 0, 1) := zDc_42 (by decide +kernel)
theorem dJ0_length_8abf5_6 : decode cJ0_length_8abf5 6 = .ok (.invokevirtual 335, 3) := zDc_182 (by decide +kernel)
theorem dJ0_length_8abf5_9 : decode cJ0_length_8abf5 9 = .ok (.ishr, 1) := zDc_122 (by decide +kernel)
theorem dJ0_length_8abf5_10 : decode cJ0_length_8abf5 10 = .ok (.ireturn, 1) := zDc_172 (by decide +kernel)
theorem dJ0_charAt_5068e_0 : decode cJ0_charAt_5068e 0 = .ok (.aload_n 0, 1) := zDc_42 (by decide +kernel)
theorem dJ0_charAt_5068e_1 : decode cJ0_charAt_5068e 1 = .ok (.invokevirtual 492, 3) := zDc_182 (by decide +kernel)
theorem dJ0_charAt_5068e_4 : decode cJ0_charAt_5068e 4 = .ok (.ifCond .eq 12, 3) := zDc_153 (by decide +kernel)
theorem dJ0_charAt_5068e_7 : decode cJ0_charAt_5068e 7 = .ok (.aload_n 0, 1) := zDc_42 (by decide +kernel)
theorem dJ0_charAt_5068e_8 : decode cJ0_charAt_5068e 8 = .ok (.getfield 9, 3) := zDc_180 (by decide +kernel)
theorem dJ0_charAt_5068e_11 : decode cJ0_charAt_5068e 11 = .ok (.iload_n 1, 1) := zDc_27 (by decide +kernel)
theorem dJ0_charAt_5068e_12 : decode cJ0_charAt_5068e 12 = .ok (.invokestatic 495, 3) := zDc_184 (by decide +kernel)
theorem dJ0_charAt_5068e_15 : decode cJ0_charAt_5068e 15 = .ok (.ireturn, 1) := zDc_172 (by decide +kernel)
theorem dJ0_coder_7d493_0 : decode cJ0_coder_7d493 0 = .ok (.getstatic 38, 3) := zDc_178 (by decide +kernel)
theorem dJ0_coder_7d493_3 : decode cJ0_coder_7d493 3 = .ok (.ifCond .eq 10, 3) := zDc_153 (by decide +kernel)
theorem dJ0_coder_7d493_6 : decode cJ0_coder_7d493 6 = .ok (.aload_n 0, 1) := zDc_42 (by decide +kernel)
theorem dJ0_coder_7d493_7 : decode cJ0_coder_7d493 7 = .ok (.getfield 15, 3) := zDc_180 (by decide +kernel)
theorem dJ0_coder_7d493_10 : decode cJ0_coder_7d493 10 = .ok (.goto 4, 3) := zDc_167 (by decide +kernel)
theorem dJ0_coder_7d493_14 : decode cJ0_coder_7d493 14 = .ok (.ireturn, 1) := zDc_172 (by decide +kernel)
theorem dJ0_isLatin1_aae02_0 : decode cJ0_isLatin1_aae02 0 = .ok (.getstatic 38, 3) := zDc_178 (by decide +kernel)
theorem dJ0_isLatin1_aae02_3 : decode cJ0_isLatin1_aae02 3 = .ok (.ifCond .eq 14, 3) := zDc_153 (by decide +kernel)
theorem dJ0_isLatin1_aae02_6 : decode cJ0_isLatin1_aae02 6 = .ok (.aload_n 0, 1) := zDc_42 (by decide +kernel)
theorem dJ0_isLatin1_aae02_7 : decode cJ0_isLatin1_aae02 7 = .ok (.getfield 15, 3) := zDc_180 (by decide +kernel)
theorem dJ0_isLatin1_aae02_10 : decode cJ0_isLatin1_aae02 10 = .ok (.ifCond .ne 7, 3) := zDc_154 (by decide +kernel)
theorem dJ0_isLatin1_aae02_13 : decode cJ0_isLatin1_aae02 13 = .ok (.iconst 1, 1) := zDc_4 (by decide +kernel)
theorem dJ0_isLatin1_aae02_14 : decode cJ0_isLatin1_aae02 14 = .ok (.goto 4, 3) := zDc_167 (by decide +kernel)
theorem dJ0_isLatin1_aae02_18 : decode cJ0_isLatin1_aae02 18 = .ok (.ireturn, 1) := zDc_172 (by decide +kernel)
theorem dJ0_checkIndex_df160_0 : decode cJ0_checkIndex_df160 0 = .ok (.iload_n 0, 1) := zDc_26 (by decide +kernel)
theorem dJ0_checkIndex_df160_1 : decode cJ0_checkIndex_df160 1 = .ok (.iload_n 1, 1) := zDc_27 (by decide +kernel)
theorem dJ0_checkIndex_df160_2 : decode cJ0_checkIndex_df160 2 = .ok (.getstatic 1053, 3) := zDc_178 (by decide +kernel)
theorem dJ0_checkIndex_df160_5 : decode cJ0_checkIndex_df160 5 = .ok (.invokestatic 1059, 3) := zDc_184 (by decide +kernel)
theorem dJ0_checkIndex_df160_8 : decode cJ0_checkIndex_df160 8 = .ok (.pop, 1) := zDc_87 (by decide +kernel)
theorem dJ0_checkIndex_df160_9 : decode cJ0_checkIndex_df160 9 = .ok (.return_, 1) := zDc_177 (by decide +kernel)
theorem dJ1_charAt_3b067_0 : decode cJ1_charAt_3b067 0 = .ok (.iload_n 1, 1) := zDc_27 (by decide +kernel)
theorem dJ1_charAt_3b067_1 : decode cJ1_charAt_3b067 1 = .ok (.aload_n 0, 1) := zDc_42 (by decide +kernel)
theorem dJ1_charAt_3b067_2 : decode cJ1_charAt_3b067 2 = .ok (.arraylength, 1) := zDc_190 (by decide +kernel)
theorem dJ1_charAt_3b067_3 : decode cJ1_charAt_3b067 3 = .ok (.invokestatic 9, 3) := zDc_184 (by decide +kernel)
theorem dJ1_charAt_3b067_6 : decode cJ1_charAt_3b067 6 = .ok (.aload_n 0, 1) := zDc_42 (by decide +kernel)
theorem dJ1_charAt_3b067_7 : decode cJ1_charAt_3b067 7 = .ok (.iload_n 1, 1) := zDc_27 (by decide +kernel)
theorem dJ1_charAt_3b067_8 : decode cJ1_charAt_3b067 8 = .ok (.baload, 1) := zDc_51 (by decide +kernel)
theorem dJ1_charAt_3b067_9 : decode cJ1_charAt_3b067 9 = .ok (.sipush 255, 3) := zDc_17 (by decide +kernel)
theorem dJ1_charAt_3b067_12 : decode cJ1_charAt_3b067 12 = .ok (.iand, 1) := zDc_126 (by decide +kernel)
theorem dJ1_charAt_3b067_13 : decode cJ1_charAt_3b067 13 = .ok (.i2c, 1) := zDc_146 (by decide +kernel)
theorem dJ1_charAt_3b067_14 : decode cJ1_charAt_3b067 14 = .ok (.ireturn, 1) := zDc_172 (by decide +kernel)
theorem dJ3_checkIndex_8e157_0 : decode cJ3_checkIndex_8e157 0 = .ok (.iload_n 0, 1) := zDc_26 (by decide +kernel)
theorem dJ3_checkIndex_8e157_1 : decode cJ3_checkIndex_8e157 1 = .ok (.ifCond .lt 8, 3) := zDc_155 (by decide +kernel)
theorem dJ3_checkIndex_8e157_4 : decode cJ3_checkIndex_8e157 4 = .ok (.iload_n 0, 1) := zDc_26 (by decide +kernel)
theorem dJ3_checkIndex_8e157_5 : decode cJ3_checkIndex_8e157 5 = .ok (.iload_n 1, 1) := zDc_27 (by decide +kernel)
theorem dJ3_checkIndex_8e157_6 : decode cJ3_checkIndex_8e157 6 = .ok (.if_icmp .lt 10, 3) := zDc_161 (by decide +kernel)
theorem dJ3_checkIndex_8e157_16 : decode cJ3_checkIndex_8e157 16 = .ok (.iload_n 0, 1) := zDc_26 (by decide +kernel)
theorem dJ3_checkIndex_8e157_17 : decode cJ3_checkIndex_8e157 17 = .ok (.ireturn, 1) := zDc_172 (by decide +kernel)
theorem zw_J0_length_8abf5_0 : Cond.fieldLink RJ0 9 "java/lang/String" "value" "[B" ∈ wsJ0_length_8abf5 := List.mem_of_getElem? (i := 1) (by decide +kernel)
theorem zw_J0_coder_7d493_1 : Cond.fieldLink RJ0 38 "java/lang/String" "COMPACT_STRINGS" "Z" ∈ wsJ0_coder_7d493 := List.mem_of_getElem? (i := 1) (by decide +kernel)
theorem zw_J0_coder_7d493_2 : Cond.fieldLink RJ0 15 "java/lang/String" "coder" "B" ∈ wsJ0_coder_7d493 := List.mem_of_getElem? (i := 2) (by decide +kernel)
theorem zw_J0_isLatin1_aae02_3 : Cond.fieldLink RJ0 38 "java/lang/String" "COMPACT_STRINGS" "Z" ∈ wsJ0_isLatin1_aae02 := List.mem_of_getElem? (i := 1) (by decide +kernel)
theorem zw_J0_isLatin1_aae02_4 : Cond.fieldLink RJ0 15 "java/lang/String" "coder" "B" ∈ wsJ0_isLatin1_aae02 := List.mem_of_getElem? (i := 2) (by decide +kernel)
theorem zw_J0_charAt_5068e_5 : Cond.fieldLink RJ0 9 "java/lang/String" "value" "[B" ∈ wsJ0_charAt_5068e := List.mem_of_getElem? (i := 1) (by decide +kernel)
theorem zw_J0_checkIndex_df160_6 : Cond.fieldLink RJ0 1053 "jdk/internal/util/Preconditions" "SIOOBE_FORMATTER" "Ljava/util/function/BiFunction;" ∈ wsJ0_checkIndex_df160 := List.mem_of_getElem? (i := 1) (by decide +kernel)
theorem zn_X10_init_X10 : ∀ w ∈ wsX100, w ∈ wsX10_init := fun _ h => List.mem_cons_of_mem _ (List.mem_append_right _ h)
theorem zw_X10_init_8 : Cond.fieldLink RX10 11 "ShortEnough$Words" "ownNames" "[I" ∈ wsX10_init := List.mem_of_getElem? (i := 5) (by decide +kernel)
theorem zw_X10_init_9 : Cond.methodLink RX10 3 objectInit ∈ wsX10_init := List.mem_of_getElem? (i := 1) (by decide +kernel)
theorem zw_X10_init_10 : Cond.instanceMethod objectInit ∈ wsX10_init := List.mem_of_getElem? (i := 2) (by decide +kernel)
theorem zw_X10_init_11 : Cond.code objectInit ⟨#[0xb1]⟩ 1 none ∈ wsX10_init := List.mem_of_getElem? (i := 3) (by decide +kernel)
theorem zw_X10_init_12 : Cond.arrayClass .int ∈ wsX10_init := List.mem_of_getElem? (i := 4) (by decide +kernel)
theorem zw_X10_init_13 : Cond.arrayClass .byte ∈ wsX10_init := List.mem_of_getElem? (i := 6) (by decide +kernel)
theorem zw_X10_init_14 : Cond.fieldLink RX10 15 "ShortEnough$Words" "text" "[B" ∈ wsX10_init := List.mem_of_getElem? (i := 7) (by decide +kernel)
theorem zw_X11_init_15 : Cond.methodLink RX11 1 objectInit ∈ wsX11_init := List.mem_of_getElem? (i := 1) (by decide +kernel)
theorem zw_X11_init_16 : Cond.instanceMethod objectInit ∈ wsX11_init := List.mem_of_getElem? (i := 2) (by decide +kernel)
theorem zw_X11_init_17 : Cond.code objectInit ⟨#[0xb1]⟩ 1 none ∈ wsX11_init := List.mem_of_getElem? (i := 3) (by decide +kernel)
theorem zw_X11_init_18 : Cond.arrayClass .byte ∈ wsX11_init := List.mem_of_getElem? (i := 4) (by decide +kernel)
theorem zn_X11_init_X11 : ∀ w ∈ wsX110, w ∈ wsX11_init := fun _ h => List.mem_cons_of_mem _ (List.mem_append_left _ (List.mem_append_left _ (List.mem_append_left _ (List.mem_append_left _ (List.mem_append_left _ (List.mem_append_left _ (List.mem_append_left _ (List.mem_append_left _ (List.mem_append_left _ (List.mem_append_left _ (List.mem_append_left _ (List.mem_append_right _ h))))))))))))
theorem zw_X11_init_20 : Cond.fieldLink RX11 9 "ShortEnough" "tape" "[B" ∈ wsX11_init := List.mem_of_getElem? (i := 5) (by decide +kernel)
theorem zw_X11_init_21 : Cond.arrayClass .int ∈ wsX11_init := List.mem_of_getElem? (i := 6) (by decide +kernel)
theorem zw_X11_init_22 : Cond.fieldLink RX11 13 "ShortEnough" "refused" "[I" ∈ wsX11_init := List.mem_of_getElem? (i := 7) (by decide +kernel)
theorem zn_X11_init_X5 : ∀ w ∈ wsX50, w ∈ wsX11_init := fun _ h => List.mem_cons_of_mem _ (List.mem_append_left _ (List.mem_append_left _ (List.mem_append_left _ (List.mem_append_left _ (List.mem_append_left _ (List.mem_append_left _ (List.mem_append_left _ (List.mem_append_left _ (List.mem_append_left _ (List.mem_append_left _ (List.mem_append_right _ h)))))))))))
theorem zw_X11_init_24 : Cond.classLink RX11 17 RX5 ∈ wsX11_init := List.mem_of_getElem? (i := 8) (by decide +kernel)
theorem zw_X11_init_25 : Cond.instantiable RX5 4 ∈ wsX11_init := List.mem_of_getElem? (i := 9) (by decide +kernel)
theorem zw_X11_init_26 : Cond.initialized RX5 ∈ wsX11_init := List.mem_of_getElem? (i := 10) (by decide +kernel)
theorem zw_X5_init_27 : Cond.methodLink RX5 3 objectInit ∈ wsX5_init := List.mem_of_getElem? (i := 1) (by decide +kernel)
theorem zw_X5_init_28 : Cond.instanceMethod objectInit ∈ wsX5_init := List.mem_of_getElem? (i := 2) (by decide +kernel)
theorem zw_X5_init_29 : Cond.code objectInit ⟨#[0xb1]⟩ 1 none ∈ wsX5_init := List.mem_of_getElem? (i := 3) (by decide +kernel)
theorem zn_X5_init_X10 : ∀ w ∈ wsX100, w ∈ wsX5_init := fun _ h => List.mem_cons_of_mem _ (List.mem_append_left _ (List.mem_append_right _ h))
theorem zw_X5_init_31 : Cond.classLink RX5 9 RX10 ∈ wsX5_init := List.mem_of_getElem? (i := 4) (by decide +kernel)
theorem zw_X5_init_32 : Cond.instantiable RX10 8 ∈ wsX5_init := List.mem_of_getElem? (i := 5) (by decide +kernel)
theorem zw_X5_init_33 : Cond.initialized RX10 ∈ wsX5_init := List.mem_of_getElem? (i := 6) (by decide +kernel)
theorem zw_X5_init_34 : Cond.methodLink RX5 11 yX10_init ∈ wsX5_init := List.mem_of_getElem? (i := 9) (by decide +kernel)
theorem zw_X5_init_35 : Cond.instanceMethod yX10_init ∈ wsX5_init := List.mem_of_getElem? (i := 10) (by decide +kernel)
theorem zn_X5_init_X5 : ∀ w ∈ wsX50, w ∈ wsX5_init := fun _ h => List.mem_cons_of_mem _ (List.mem_append_right _ h)
theorem zw_X5_init_37 : Cond.fieldLink RX5 12 "ShortEnough$Parser" "words" "LShortEnough$Words;" ∈ wsX5_init := List.mem_of_getElem? (i := 7) (by decide +kernel)
theorem zw_X5_init_38 : Cond.fieldLink RX5 18 "ShortEnough$Parser" "faultPlace" "I" ∈ wsX5_init := List.mem_of_getElem? (i := 8) (by decide +kernel)
theorem zw_X11_init_39 : Cond.instanceMethod yX5_init ∈ wsX11_init := List.mem_of_getElem? (i := 45) (by decide +kernel)
theorem zw_X11_init_40 : Cond.fieldLink RX11 20 "ShortEnough" "parser" "LShortEnough$Parser;" ∈ wsX11_init := List.mem_of_getElem? (i := 11) (by decide +kernel)
theorem zn_X11_init_X9 : ∀ w ∈ wsX90, w ∈ wsX11_init := fun _ h => List.mem_cons_of_mem _ (List.mem_append_left _ (List.mem_append_left _ (List.mem_append_left _ (List.mem_append_left _ (List.mem_append_left _ (List.mem_append_left _ (List.mem_append_left _ (List.mem_append_left _ (List.mem_append_left _ (List.mem_append_right _ h))))))))))
theorem zw_X11_init_42 : Cond.classLink RX11 24 RX9 ∈ wsX11_init := List.mem_of_getElem? (i := 12) (by decide +kernel)
theorem zw_X11_init_43 : Cond.instantiable RX9 9 ∈ wsX11_init := List.mem_of_getElem? (i := 13) (by decide +kernel)
theorem zw_X11_init_44 : Cond.initialized RX9 ∈ wsX11_init := List.mem_of_getElem? (i := 14) (by decide +kernel)
theorem zw_X9_init_45 : Cond.methodLink RX9 3 objectInit ∈ wsX9_init := List.mem_of_getElem? (i := 1) (by decide +kernel)
theorem zw_X9_init_46 : Cond.instanceMethod objectInit ∈ wsX9_init := List.mem_of_getElem? (i := 2) (by decide +kernel)
theorem zw_X9_init_47 : Cond.code objectInit ⟨#[0xb1]⟩ 1 none ∈ wsX9_init := List.mem_of_getElem? (i := 3) (by decide +kernel)
theorem zw_X9_init_48 : Cond.arrayClass .int ∈ wsX9_init := List.mem_of_getElem? (i := 4) (by decide +kernel)
theorem zn_X9_init_X9 : ∀ w ∈ wsX90, w ∈ wsX9_init := fun _ h => List.mem_cons_of_mem _ (List.mem_append_left _ (List.mem_append_left _ (List.mem_append_left _ (List.mem_append_right _ h))))
theorem zw_X9_init_50 : Cond.fieldLink RX9 9 "ShortEnough$Task" "formatName" "[I" ∈ wsX9_init := List.mem_of_getElem? (i := 5) (by decide +kernel)
theorem zw_X9_init_51 : Cond.fieldLink RX9 15 "ShortEnough$Task" "step" "[I" ∈ wsX9_init := List.mem_of_getElem? (i := 6) (by decide +kernel)
theorem zw_X9_init_52 : Cond.fieldLink RX9 18 "ShortEnough$Task" "most" "[I" ∈ wsX9_init := List.mem_of_getElem? (i := 7) (by decide +kernel)
theorem zw_X9_init_53 : Cond.fieldLink RX9 21 "ShortEnough$Task" "price" "[I" ∈ wsX9_init := List.mem_of_getElem? (i := 8) (by decide +kernel)
theorem zn_X9_init_X4 : ∀ w ∈ wsX40, w ∈ wsX9_init := fun _ h => List.mem_cons_of_mem _ (List.mem_append_left _ (List.mem_append_left _ (List.mem_append_right _ h)))
theorem zw_X9_init_55 : Cond.classLink RX9 24 RX4 ∈ wsX9_init := List.mem_of_getElem? (i := 9) (by decide +kernel)
theorem zw_X9_init_56 : Cond.instantiable RX4 10 ∈ wsX9_init := List.mem_of_getElem? (i := 10) (by decide +kernel)
theorem zw_X9_init_57 : Cond.initialized RX4 ∈ wsX9_init := List.mem_of_getElem? (i := 11) (by decide +kernel)
theorem zw_X4_init_58 : Cond.methodLink RX4 3 objectInit ∈ wsX4_init := List.mem_of_getElem? (i := 1) (by decide +kernel)
theorem zw_X4_init_59 : Cond.instanceMethod objectInit ∈ wsX4_init := List.mem_of_getElem? (i := 2) (by decide +kernel)
theorem zw_X4_init_60 : Cond.code objectInit ⟨#[0xb1]⟩ 1 none ∈ wsX4_init := List.mem_of_getElem? (i := 3) (by decide +kernel)
theorem zw_X4_init_61 : Cond.arrayClass .int ∈ wsX4_init := List.mem_of_getElem? (i := 4) (by decide +kernel)
theorem zn_X4_init_X4 : ∀ w ∈ wsX40, w ∈ wsX4_init := fun _ h => List.mem_cons_of_mem _ (List.mem_append_right _ h)
theorem zw_X4_init_63 : Cond.fieldLink RX4 9 "ShortEnough$Numbers" "name" "[I" ∈ wsX4_init := List.mem_of_getElem? (i := 5) (by decide +kernel)
theorem zw_X4_init_64 : Cond.fieldLink RX4 15 "ShortEnough$Numbers" "op" "[I" ∈ wsX4_init := List.mem_of_getElem? (i := 6) (by decide +kernel)
theorem zw_X4_init_65 : Cond.fieldLink RX4 18 "ShortEnough$Numbers" "fixedAs" "[I" ∈ wsX4_init := List.mem_of_getElem? (i := 7) (by decide +kernel)
theorem zw_X4_init_66 : Cond.fieldLink RX4 21 "ShortEnough$Numbers" "allowed" "[I" ∈ wsX4_init := List.mem_of_getElem? (i := 8) (by decide +kernel)
theorem zw_X4_init_67 : Cond.fieldLink RX4 24 "ShortEnough$Numbers" "lets" "[I" ∈ wsX4_init := List.mem_of_getElem? (i := 9) (by decide +kernel)
theorem zw_X4_init_68 : Cond.fieldLink RX4 27 "ShortEnough$Numbers" "joined" "[I" ∈ wsX4_init := List.mem_of_getElem? (i := 10) (by decide +kernel)
theorem zw_X4_init_69 : Cond.fieldLink RX4 30 "ShortEnough$Numbers" "made" "[I" ∈ wsX4_init := List.mem_of_getElem? (i := 11) (by decide +kernel)
theorem zw_X4_init_70 : Cond.fieldLink RX4 33 "ShortEnough$Numbers" "amount" "[I" ∈ wsX4_init := List.mem_of_getElem? (i := 12) (by decide +kernel)
theorem zw_X9_init_71 : Cond.instanceMethod yX4_init ∈ wsX9_init := List.mem_of_getElem? (i := 21) (by decide +kernel)
theorem zw_X9_init_72 : Cond.fieldLink RX9 27 "ShortEnough$Task" "numbers" "LShortEnough$Numbers;" ∈ wsX9_init := List.mem_of_getElem? (i := 12) (by decide +kernel)
theorem zn_X9_init_X2 : ∀ w ∈ wsX20, w ∈ wsX9_init := fun _ h => List.mem_cons_of_mem _ (List.mem_append_left _ (List.mem_append_right _ h))
theorem zw_X9_init_74 : Cond.classLink RX9 31 RX2 ∈ wsX9_init := List.mem_of_getElem? (i := 13) (by decide +kernel)
theorem zw_X9_init_75 : Cond.instantiable RX2 6 ∈ wsX9_init := List.mem_of_getElem? (i := 14) (by decide +kernel)
theorem zw_X9_init_76 : Cond.initialized RX2 ∈ wsX9_init := List.mem_of_getElem? (i := 15) (by decide +kernel)
theorem zw_X2_init_77 : Cond.methodLink RX2 3 objectInit ∈ wsX2_init := List.mem_of_getElem? (i := 1) (by decide +kernel)
theorem zw_X2_init_78 : Cond.instanceMethod objectInit ∈ wsX2_init := List.mem_of_getElem? (i := 2) (by decide +kernel)
theorem zw_X2_init_79 : Cond.code objectInit ⟨#[0xb1]⟩ 1 none ∈ wsX2_init := List.mem_of_getElem? (i := 3) (by decide +kernel)
theorem zw_X2_init_80 : Cond.arrayClass .int ∈ wsX2_init := List.mem_of_getElem? (i := 4) (by decide +kernel)
theorem zn_X2_init_X2 : ∀ w ∈ wsX20, w ∈ wsX2_init := fun _ h => List.mem_cons_of_mem _ (List.mem_append_right _ h)
theorem zw_X2_init_82 : Cond.fieldLink RX2 9 "ShortEnough$Groups" "of" "[I" ∈ wsX2_init := List.mem_of_getElem? (i := 5) (by decide +kernel)
theorem zw_X2_init_83 : Cond.fieldLink RX2 15 "ShortEnough$Groups" "fixedAs" "[I" ∈ wsX2_init := List.mem_of_getElem? (i := 6) (by decide +kernel)
theorem zw_X2_init_84 : Cond.fieldLink RX2 18 "ShortEnough$Groups" "leader" "[I" ∈ wsX2_init := List.mem_of_getElem? (i := 7) (by decide +kernel)
theorem zw_X9_init_85 : Cond.instanceMethod yX2_init ∈ wsX9_init := List.mem_of_getElem? (i := 32) (by decide +kernel)
theorem zw_X9_init_86 : Cond.fieldLink RX9 34 "ShortEnough$Task" "groups" "LShortEnough$Groups;" ∈ wsX9_init := List.mem_of_getElem? (i := 16) (by decide +kernel)
theorem zn_X9_init_X6 : ∀ w ∈ wsX60, w ∈ wsX9_init := fun _ h => List.mem_cons_of_mem _ (List.mem_append_right _ h)
theorem zw_X9_init_88 : Cond.classLink RX9 38 RX6 ∈ wsX9_init := List.mem_of_getElem? (i := 17) (by decide +kernel)
theorem zw_X9_init_89 : Cond.instantiable RX6 3 ∈ wsX9_init := List.mem_of_getElem? (i := 18) (by decide +kernel)
theorem zw_X9_init_90 : Cond.initialized RX6 ∈ wsX9_init := List.mem_of_getElem? (i := 19) (by decide +kernel)
theorem zw_X6_init_91 : Cond.methodLink RX6 3 objectInit ∈ wsX6_init := List.mem_of_getElem? (i := 1) (by decide +kernel)
theorem zw_X6_init_92 : Cond.instanceMethod objectInit ∈ wsX6_init := List.mem_of_getElem? (i := 2) (by decide +kernel)
theorem zw_X6_init_93 : Cond.code objectInit ⟨#[0xb1]⟩ 1 none ∈ wsX6_init := List.mem_of_getElem? (i := 3) (by decide +kernel)
theorem zw_X6_init_94 : Cond.arrayClass .long ∈ wsX6_init := List.mem_of_getElem? (i := 4) (by decide +kernel)
theorem zn_X6_init_X6 : ∀ w ∈ wsX60, w ∈ wsX6_init := fun _ h => List.mem_cons_of_mem _ (List.mem_append_right _ h)
theorem zw_X6_init_96 : Cond.fieldLink RX6 9 "ShortEnough$Ranges" "low" "[J" ∈ wsX6_init := List.mem_of_getElem? (i := 5) (by decide +kernel)
theorem zw_X6_init_97 : Cond.fieldLink RX6 15 "ShortEnough$Ranges" "high" "[J" ∈ wsX6_init := List.mem_of_getElem? (i := 6) (by decide +kernel)
theorem zw_X6_init_98 : Cond.arrayClass .boolean ∈ wsX6_init := List.mem_of_getElem? (i := 7) (by decide +kernel)
theorem zw_X6_init_99 : Cond.fieldLink RX6 18 "ShortEnough$Ranges" "wide" "[Z" ∈ wsX6_init := List.mem_of_getElem? (i := 8) (by decide +kernel)
theorem zw_X9_init_100 : Cond.instanceMethod yX6_init ∈ wsX9_init := List.mem_of_getElem? (i := 38) (by decide +kernel)
theorem zw_X9_init_101 : Cond.fieldLink RX9 41 "ShortEnough$Task" "ranges" "LShortEnough$Ranges;" ∈ wsX9_init := List.mem_of_getElem? (i := 20) (by decide +kernel)
theorem zw_X11_init_102 : Cond.instanceMethod yX9_init ∈ wsX11_init := List.mem_of_getElem? (i := 108) (by decide +kernel)
theorem zw_X11_init_103 : Cond.fieldLink RX11 27 "ShortEnough" "current" "LShortEnough$Task;" ∈ wsX11_init := List.mem_of_getElem? (i := 15) (by decide +kernel)
theorem zw_X11_init_104 : Cond.fieldLink RX11 31 "ShortEnough" "spare" "LShortEnough$Task;" ∈ wsX11_init := List.mem_of_getElem? (i := 16) (by decide +kernel)
theorem zw_X11_init_105 : Cond.fieldLink RX11 34 "ShortEnough" "hand" "[I" ∈ wsX11_init := List.mem_of_getElem? (i := 17) (by decide +kernel)
theorem zw_X11_init_106 : Cond.fieldLink RX11 37 "ShortEnough" "other" "[I" ∈ wsX11_init := List.mem_of_getElem? (i := 18) (by decide +kernel)
theorem zn_X11_init_X7 : ∀ w ∈ wsX70, w ∈ wsX11_init := fun _ h => List.mem_cons_of_mem _ (List.mem_append_left _ (List.mem_append_left _ (List.mem_append_left _ (List.mem_append_left _ (List.mem_append_left _ (List.mem_append_left _ (List.mem_append_left _ (List.mem_append_left _ (List.mem_append_right _ h)))))))))
theorem zw_X11_init_108 : Cond.classLink RX11 40 RX7 ∈ wsX11_init := List.mem_of_getElem? (i := 19) (by decide +kernel)
theorem zw_X11_init_109 : Cond.instantiable RX7 3 ∈ wsX11_init := List.mem_of_getElem? (i := 20) (by decide +kernel)
theorem zw_X11_init_110 : Cond.initialized RX7 ∈ wsX11_init := List.mem_of_getElem? (i := 21) (by decide +kernel)
theorem zw_X7_init_111 : Cond.methodLink RX7 3 objectInit ∈ wsX7_init := List.mem_of_getElem? (i := 1) (by decide +kernel)
theorem zw_X7_init_112 : Cond.instanceMethod objectInit ∈ wsX7_init := List.mem_of_getElem? (i := 2) (by decide +kernel)
theorem zw_X7_init_113 : Cond.code objectInit ⟨#[0xb1]⟩ 1 none ∈ wsX7_init := List.mem_of_getElem? (i := 3) (by decide +kernel)
theorem zw_X7_init_114 : Cond.arrayClass .long ∈ wsX7_init := List.mem_of_getElem? (i := 4) (by decide +kernel)
theorem zn_X7_init_X7 : ∀ w ∈ wsX70, w ∈ wsX7_init := fun _ h => List.mem_cons_of_mem _ (List.mem_append_right _ h)
theorem zw_X7_init_116 : Cond.fieldLink RX7 9 "ShortEnough$Reckoning" "errors" "[J" ∈ wsX7_init := List.mem_of_getElem? (i := 5) (by decide +kernel)
theorem zw_X11_init_117 : Cond.instanceMethod yX7_init ∈ wsX11_init := List.mem_of_getElem? (i := 150) (by decide +kernel)
theorem zw_X11_init_118 : Cond.fieldLink RX11 43 "ShortEnough" "reckoning" "LShortEnough$Reckoning;" ∈ wsX11_init := List.mem_of_getElem? (i := 22) (by decide +kernel)
theorem zw_X11_init_119 : Cond.fieldLink RX11 47 "ShortEnough" "otherReckoning" "LShortEnough$Reckoning;" ∈ wsX11_init := List.mem_of_getElem? (i := 23) (by decide +kernel)
theorem zn_X11_init_X6 : ∀ w ∈ wsX60, w ∈ wsX11_init := fun _ h => List.mem_cons_of_mem _ (List.mem_append_left _ (List.mem_append_left _ (List.mem_append_left _ (List.mem_append_left _ (List.mem_append_left _ (List.mem_append_left _ (List.mem_append_left _ (List.mem_append_right _ h))))))))
theorem zw_X11_init_121 : Cond.classLink RX11 50 RX6 ∈ wsX11_init := List.mem_of_getElem? (i := 24) (by decide +kernel)
theorem zw_X11_init_122 : Cond.instantiable RX6 3 ∈ wsX11_init := List.mem_of_getElem? (i := 25) (by decide +kernel)
theorem zw_X11_init_123 : Cond.initialized RX6 ∈ wsX11_init := List.mem_of_getElem? (i := 26) (by decide +kernel)
theorem zw_X11_init_124 : Cond.instanceMethod yX6_init ∈ wsX11_init := List.mem_of_getElem? (i := 142) (by decide +kernel)
theorem zw_X11_init_125 : Cond.fieldLink RX11 53 "ShortEnough" "longerRanges" "LShortEnough$Ranges;" ∈ wsX11_init := List.mem_of_getElem? (i := 27) (by decide +kernel)
theorem zn_X11_init_X1 : ∀ w ∈ wsX10, w ∈ wsX11_init := fun _ h => List.mem_cons_of_mem _ (List.mem_append_left _ (List.mem_append_left _ (List.mem_append_left _ (List.mem_append_left _ (List.mem_append_left _ (List.mem_append_left _ (List.mem_append_right _ h)))))))
theorem zw_X11_init_127 : Cond.classLink RX11 57 RX1 ∈ wsX11_init := List.mem_of_getElem? (i := 28) (by decide +kernel)
theorem zw_X11_init_128 : Cond.instantiable RX1 14 ∈ wsX11_init := List.mem_of_getElem? (i := 29) (by decide +kernel)
theorem zw_X11_init_129 : Cond.initialized RX1 ∈ wsX11_init := List.mem_of_getElem? (i := 30) (by decide +kernel)
theorem zw_X1_init_130 : Cond.methodLink RX1 3 objectInit ∈ wsX1_init := List.mem_of_getElem? (i := 1) (by decide +kernel)
theorem zw_X1_init_131 : Cond.instanceMethod objectInit ∈ wsX1_init := List.mem_of_getElem? (i := 2) (by decide +kernel)
theorem zw_X1_init_132 : Cond.code objectInit ⟨#[0xb1]⟩ 1 none ∈ wsX1_init := List.mem_of_getElem? (i := 3) (by decide +kernel)
theorem zn_X1_init_X7 : ∀ w ∈ wsX70, w ∈ wsX1_init := fun _ h => List.mem_cons_of_mem _ (List.mem_append_left _ (List.mem_append_right _ h))
theorem zw_X1_init_134 : Cond.classLink RX1 9 RX7 ∈ wsX1_init := List.mem_of_getElem? (i := 4) (by decide +kernel)
theorem zw_X1_init_135 : Cond.instantiable RX7 3 ∈ wsX1_init := List.mem_of_getElem? (i := 5) (by decide +kernel)
theorem zw_X1_init_136 : Cond.initialized RX7 ∈ wsX1_init := List.mem_of_getElem? (i := 6) (by decide +kernel)
theorem zw_X1_init_137 : Cond.instanceMethod yX7_init ∈ wsX1_init := List.mem_of_getElem? (i := 17) (by decide +kernel)
theorem zn_X1_init_X1 : ∀ w ∈ wsX10, w ∈ wsX1_init := fun _ h => List.mem_cons_of_mem _ (List.mem_append_right _ h)
theorem zw_X1_init_139 : Cond.fieldLink RX1 12 "ShortEnough$FullSearch" "reckoning" "LShortEnough$Reckoning;" ∈ wsX1_init := List.mem_of_getElem? (i := 7) (by decide +kernel)
theorem zw_X1_init_140 : Cond.arrayClass .int ∈ wsX1_init := List.mem_of_getElem? (i := 8) (by decide +kernel)
theorem zw_X1_init_141 : Cond.fieldLink RX1 18 "ShortEnough$FullSearch" "choice" "[I" ∈ wsX1_init := List.mem_of_getElem? (i := 9) (by decide +kernel)
theorem zw_X1_init_142 : Cond.fieldLink RX1 22 "ShortEnough$FullSearch" "prices" "[I" ∈ wsX1_init := List.mem_of_getElem? (i := 10) (by decide +kernel)
theorem zw_X1_init_143 : Cond.fieldLink RX1 25 "ShortEnough$FullSearch" "errors" "[I" ∈ wsX1_init := List.mem_of_getElem? (i := 11) (by decide +kernel)
theorem zw_X1_init_144 : Cond.fieldLink RX1 28 "ShortEnough$FullSearch" "best" "I" ∈ wsX1_init := List.mem_of_getElem? (i := 12) (by decide +kernel)
theorem zw_X1_init_145 : Cond.fieldLink RX1 32 "ShortEnough$FullSearch" "frontOf" "I" ∈ wsX1_init := List.mem_of_getElem? (i := 13) (by decide +kernel)
theorem zw_X1_init_146 : Cond.fieldLink RX1 35 "ShortEnough$FullSearch" "frontPrice" "[I" ∈ wsX1_init := List.mem_of_getElem? (i := 14) (by decide +kernel)
theorem zw_X1_init_147 : Cond.fieldLink RX1 38 "ShortEnough$FullSearch" "frontError" "[I" ∈ wsX1_init := List.mem_of_getElem? (i := 15) (by decide +kernel)
theorem zw_X1_init_148 : Cond.fieldLink RX1 41 "ShortEnough$FullSearch" "frontMany" "[I" ∈ wsX1_init := List.mem_of_getElem? (i := 16) (by decide +kernel)
theorem zw_X11_init_149 : Cond.instanceMethod yX1_init ∈ wsX11_init := List.mem_of_getElem? (i := 154) (by decide +kernel)
theorem zw_X11_init_150 : Cond.fieldLink RX11 60 "ShortEnough" "full" "LShortEnough$FullSearch;" ∈ wsX11_init := List.mem_of_getElem? (i := 31) (by decide +kernel)
theorem zn_X11_init_X3 : ∀ w ∈ wsX30, w ∈ wsX11_init := fun _ h => List.mem_cons_of_mem _ (List.mem_append_left _ (List.mem_append_left _ (List.mem_append_left _ (List.mem_append_left _ (List.mem_append_left _ (List.mem_append_right _ h))))))
theorem zw_X11_init_152 : Cond.classLink RX11 64 RX3 ∈ wsX11_init := List.mem_of_getElem? (i := 32) (by decide +kernel)
theorem zw_X11_init_153 : Cond.instantiable RX3 16 ∈ wsX11_init := List.mem_of_getElem? (i := 33) (by decide +kernel)
theorem zw_X11_init_154 : Cond.initialized RX3 ∈ wsX11_init := List.mem_of_getElem? (i := 34) (by decide +kernel)
theorem zw_X3_init_155 : Cond.methodLink RX3 3 objectInit ∈ wsX3_init := List.mem_of_getElem? (i := 1) (by decide +kernel)
theorem zw_X3_init_156 : Cond.instanceMethod objectInit ∈ wsX3_init := List.mem_of_getElem? (i := 2) (by decide +kernel)
theorem zw_X3_init_157 : Cond.code objectInit ⟨#[0xb1]⟩ 1 none ∈ wsX3_init := List.mem_of_getElem? (i := 3) (by decide +kernel)
theorem zn_X3_init_X7 : ∀ w ∈ wsX70, w ∈ wsX3_init := fun _ h => List.mem_cons_of_mem _ (List.mem_append_left _ (List.mem_append_right _ h))
theorem zw_X3_init_159 : Cond.classLink RX3 9 RX7 ∈ wsX3_init := List.mem_of_getElem? (i := 4) (by decide +kernel)
theorem zw_X3_init_160 : Cond.instantiable RX7 3 ∈ wsX3_init := List.mem_of_getElem? (i := 5) (by decide +kernel)
theorem zw_X3_init_161 : Cond.initialized RX7 ∈ wsX3_init := List.mem_of_getElem? (i := 6) (by decide +kernel)
theorem zw_X3_init_162 : Cond.instanceMethod yX7_init ∈ wsX3_init := List.mem_of_getElem? (i := 18) (by decide +kernel)
theorem zn_X3_init_X3 : ∀ w ∈ wsX30, w ∈ wsX3_init := fun _ h => List.mem_cons_of_mem _ (List.mem_append_right _ h)
theorem zw_X3_init_164 : Cond.fieldLink RX3 12 "ShortEnough$LocalSearch" "reckoning" "LShortEnough$Reckoning;" ∈ wsX3_init := List.mem_of_getElem? (i := 7) (by decide +kernel)
theorem zw_X3_init_165 : Cond.arrayClass .int ∈ wsX3_init := List.mem_of_getElem? (i := 8) (by decide +kernel)
theorem zw_X3_init_166 : Cond.fieldLink RX3 18 "ShortEnough$LocalSearch" "near" "[I" ∈ wsX3_init := List.mem_of_getElem? (i := 9) (by decide +kernel)
theorem zw_X3_init_167 : Cond.arrayClass .boolean ∈ wsX3_init := List.mem_of_getElem? (i := 10) (by decide +kernel)
theorem zw_X3_init_168 : Cond.fieldLink RX3 22 "ShortEnough$LocalSearch" "changed" "[Z" ∈ wsX3_init := List.mem_of_getElem? (i := 11) (by decide +kernel)
theorem zw_X3_init_169 : Cond.fieldLink RX3 26 "ShortEnough$LocalSearch" "unchanged" "[I" ∈ wsX3_init := List.mem_of_getElem? (i := 12) (by decide +kernel)
theorem zw_X3_init_170 : Cond.fieldLink RX3 29 "ShortEnough$LocalSearch" "partFrom" "[I" ∈ wsX3_init := List.mem_of_getElem? (i := 13) (by decide +kernel)
theorem zw_X3_init_171 : Cond.fieldLink RX3 32 "ShortEnough$LocalSearch" "partTo" "[I" ∈ wsX3_init := List.mem_of_getElem? (i := 14) (by decide +kernel)
theorem zw_X3_init_172 : Cond.fieldLink RX3 35 "ShortEnough$LocalSearch" "row" "[I" ∈ wsX3_init := List.mem_of_getElem? (i := 15) (by decide +kernel)
theorem zw_X3_init_173 : Cond.fieldLink RX3 38 "ShortEnough$LocalSearch" "bestGroup" "I" ∈ wsX3_init := List.mem_of_getElem? (i := 16) (by decide +kernel)
theorem zw_X3_init_174 : Cond.fieldLink RX3 42 "ShortEnough$LocalSearch" "bestFormat" "I" ∈ wsX3_init := List.mem_of_getElem? (i := 17) (by decide +kernel)
theorem zw_X11_init_175 : Cond.instanceMethod yX3_init ∈ wsX11_init := List.mem_of_getElem? (i := 167) (by decide +kernel)
theorem zw_X11_init_176 : Cond.fieldLink RX11 67 "ShortEnough" "local" "LShortEnough$LocalSearch;" ∈ wsX11_init := List.mem_of_getElem? (i := 35) (by decide +kernel)
theorem zn_X11_init_X0 : ∀ w ∈ wsX00, w ∈ wsX11_init := fun _ h => List.mem_cons_of_mem _ (List.mem_append_left _ (List.mem_append_left _ (List.mem_append_left _ (List.mem_append_left _ (List.mem_append_right _ h)))))
theorem zw_X11_init_178 : Cond.classLink RX11 71 RX0 ∈ wsX11_init := List.mem_of_getElem? (i := 36) (by decide +kernel)
theorem zw_X11_init_179 : Cond.instantiable RX0 5 ∈ wsX11_init := List.mem_of_getElem? (i := 37) (by decide +kernel)
theorem zw_X11_init_180 : Cond.initialized RX0 ∈ wsX11_init := List.mem_of_getElem? (i := 38) (by decide +kernel)
theorem zw_X0_init_181 : Cond.methodLink RX0 3 objectInit ∈ wsX0_init := List.mem_of_getElem? (i := 1) (by decide +kernel)
theorem zw_X0_init_182 : Cond.instanceMethod objectInit ∈ wsX0_init := List.mem_of_getElem? (i := 2) (by decide +kernel)
theorem zw_X0_init_183 : Cond.code objectInit ⟨#[0xb1]⟩ 1 none ∈ wsX0_init := List.mem_of_getElem? (i := 3) (by decide +kernel)
theorem zn_X0_init_X6 : ∀ w ∈ wsX60, w ∈ wsX0_init := fun _ h => List.mem_cons_of_mem _ (List.mem_append_left _ (List.mem_append_left _ (List.mem_append_right _ h)))
theorem zw_X0_init_185 : Cond.classLink RX0 9 RX6 ∈ wsX0_init := List.mem_of_getElem? (i := 4) (by decide +kernel)
theorem zw_X0_init_186 : Cond.instantiable RX6 3 ∈ wsX0_init := List.mem_of_getElem? (i := 5) (by decide +kernel)
theorem zw_X0_init_187 : Cond.initialized RX6 ∈ wsX0_init := List.mem_of_getElem? (i := 6) (by decide +kernel)
theorem zw_X0_init_188 : Cond.instanceMethod yX6_init ∈ wsX0_init := List.mem_of_getElem? (i := 16) (by decide +kernel)
theorem zn_X0_init_X0 : ∀ w ∈ wsX00, w ∈ wsX0_init := fun _ h => List.mem_cons_of_mem _ (List.mem_append_left _ (List.mem_append_right _ h))
theorem zw_X0_init_190 : Cond.fieldLink RX0 12 "ShortEnough$CertificateReader" "said" "LShortEnough$Ranges;" ∈ wsX0_init := List.mem_of_getElem? (i := 7) (by decide +kernel)
theorem zn_X0_init_X7 : ∀ w ∈ wsX70, w ∈ wsX0_init := fun _ h => List.mem_cons_of_mem _ (List.mem_append_right _ h)
theorem zw_X0_init_192 : Cond.classLink RX0 18 RX7 ∈ wsX0_init := List.mem_of_getElem? (i := 8) (by decide +kernel)
theorem zw_X0_init_193 : Cond.instantiable RX7 3 ∈ wsX0_init := List.mem_of_getElem? (i := 9) (by decide +kernel)
theorem zw_X0_init_194 : Cond.initialized RX7 ∈ wsX0_init := List.mem_of_getElem? (i := 10) (by decide +kernel)
theorem zw_X0_init_195 : Cond.instanceMethod yX7_init ∈ wsX0_init := List.mem_of_getElem? (i := 24) (by decide +kernel)
theorem zw_X0_init_196 : Cond.fieldLink RX0 21 "ShortEnough$CertificateReader" "saidErrors" "LShortEnough$Reckoning;" ∈ wsX0_init := List.mem_of_getElem? (i := 11) (by decide +kernel)
theorem zw_X0_init_197 : Cond.arrayClass .int ∈ wsX0_init := List.mem_of_getElem? (i := 12) (by decide +kernel)
theorem zw_X0_init_198 : Cond.fieldLink RX0 25 "ShortEnough$CertificateReader" "choice" "[I" ∈ wsX0_init := List.mem_of_getElem? (i := 13) (by decide +kernel)
theorem zw_X0_init_199 : Cond.fieldLink RX0 29 "ShortEnough$CertificateReader" "breaksAt" "I" ∈ wsX0_init := List.mem_of_getElem? (i := 14) (by decide +kernel)
theorem zw_X0_init_200 : Cond.fieldLink RX0 33 "ShortEnough$CertificateReader" "reason" "I" ∈ wsX0_init := List.mem_of_getElem? (i := 15) (by decide +kernel)
theorem zw_X11_init_201 : Cond.instanceMethod yX0_init ∈ wsX11_init := List.mem_of_getElem? (i := 180) (by decide +kernel)
theorem zw_X11_init_202 : Cond.fieldLink RX11 74 "ShortEnough" "reader" "LShortEnough$CertificateReader;" ∈ wsX11_init := List.mem_of_getElem? (i := 39) (by decide +kernel)
theorem zn_X11_init_X8 : ∀ w ∈ wsX80, w ∈ wsX11_init := fun _ h => List.mem_cons_of_mem _ (List.mem_append_left _ (List.mem_append_left _ (List.mem_append_left _ (List.mem_append_right _ h))))
theorem zw_X11_init_204 : Cond.classLink RX11 78 RX8 ∈ wsX11_init := List.mem_of_getElem? (i := 40) (by decide +kernel)
theorem zw_X11_init_205 : Cond.instantiable RX8 2 ∈ wsX11_init := List.mem_of_getElem? (i := 41) (by decide +kernel)
theorem zw_X11_init_206 : Cond.initialized RX8 ∈ wsX11_init := List.mem_of_getElem? (i := 42) (by decide +kernel)
theorem zw_X8_init_207 : Cond.methodLink RX8 3 objectInit ∈ wsX8_init := List.mem_of_getElem? (i := 1) (by decide +kernel)
theorem zw_X8_init_208 : Cond.instanceMethod objectInit ∈ wsX8_init := List.mem_of_getElem? (i := 2) (by decide +kernel)
theorem zw_X8_init_209 : Cond.code objectInit ⟨#[0xb1]⟩ 1 none ∈ wsX8_init := List.mem_of_getElem? (i := 3) (by decide +kernel)
theorem zw_X8_init_210 : Cond.arrayClass .long ∈ wsX8_init := List.mem_of_getElem? (i := 4) (by decide +kernel)
theorem zn_X8_init_X8 : ∀ w ∈ wsX80, w ∈ wsX8_init := fun _ h => List.mem_cons_of_mem _ (List.mem_append_right _ h)
theorem zw_X8_init_212 : Cond.fieldLink RX8 9 "ShortEnough$Sampler" "exact" "[J" ∈ wsX8_init := List.mem_of_getElem? (i := 5) (by decide +kernel)
theorem zw_X8_init_213 : Cond.fieldLink RX8 15 "ShortEnough$Sampler" "kept" "[J" ∈ wsX8_init := List.mem_of_getElem? (i := 6) (by decide +kernel)
theorem zw_X11_init_214 : Cond.instanceMethod yX8_init ∈ wsX11_init := List.mem_of_getElem? (i := 190) (by decide +kernel)
theorem zw_X11_init_215 : Cond.fieldLink RX11 81 "ShortEnough" "sampler" "LShortEnough$Sampler;" ∈ wsX11_init := List.mem_of_getElem? (i := 43) (by decide +kernel)
theorem zw_X11_init_216 : Cond.fieldLink RX11 85 "ShortEnough" "seedNow" "I" ∈ wsX11_init := List.mem_of_getElem? (i := 44) (by decide +kernel)
theorem zw_X12_init_217 : Cond.methodLink RX12 1 objectInit ∈ wsX12_init := List.mem_of_getElem? (i := 1) (by decide +kernel)
theorem zw_X12_init_218 : Cond.instanceMethod objectInit ∈ wsX12_init := List.mem_of_getElem? (i := 2) (by decide +kernel)
theorem zw_X12_init_219 : Cond.code objectInit ⟨#[0xb1]⟩ 1 none ∈ wsX12_init := List.mem_of_getElem? (i := 3) (by decide +kernel)
theorem zw_X12_init_220 : Cond.arrayClass .int ∈ wsX12_init := List.mem_of_getElem? (i := 4) (by decide +kernel)
theorem zn_X12_init_X12 : ∀ w ∈ wsX120, w ∈ wsX12_init := fun _ h => List.mem_cons_of_mem _ (List.mem_append_right _ h)
theorem zw_X12_init_222 : Cond.fieldLink RX12 7 "ShortEnoughModel" "tape" "[I" ∈ wsX12_init := List.mem_of_getElem? (i := 5) (by decide +kernel)
theorem zw_X12_init_223 : Cond.fieldLink RX12 13 "ShortEnoughModel" "taped" "I" ∈ wsX12_init := List.mem_of_getElem? (i := 6) (by decide +kernel)
theorem zw_X12_init_224 : Cond.fieldLink RX12 17 "ShortEnoughModel" "refused" "[I" ∈ wsX12_init := List.mem_of_getElem? (i := 7) (by decide +kernel)
theorem zw_X12_init_225 : Cond.fieldLink RX12 20 "ShortEnoughModel" "faultKind" "I" ∈ wsX12_init := List.mem_of_getElem? (i := 8) (by decide +kernel)
theorem zw_X12_init_226 : Cond.fieldLink RX12 23 "ShortEnoughModel" "faultPlace" "I" ∈ wsX12_init := List.mem_of_getElem? (i := 9) (by decide +kernel)
theorem zw_X12_init_227 : Cond.fieldLink RX12 26 "ShortEnoughModel" "size" "I" ∈ wsX12_init := List.mem_of_getElem? (i := 10) (by decide +kernel)
theorem zw_X12_init_228 : Cond.fieldLink RX12 29 "ShortEnoughModel" "at" "I" ∈ wsX12_init := List.mem_of_getElem? (i := 11) (by decide +kernel)
theorem zw_X12_init_229 : Cond.fieldLink RX12 32 "ShortEnoughModel" "begun" "I" ∈ wsX12_init := List.mem_of_getElem? (i := 12) (by decide +kernel)
theorem zw_X12_init_230 : Cond.fieldLink RX12 35 "ShortEnoughModel" "wrong" "I" ∈ wsX12_init := List.mem_of_getElem? (i := 13) (by decide +kernel)
theorem zw_X12_init_231 : Cond.fieldLink RX12 38 "ShortEnoughModel" "wrongAt" "I" ∈ wsX12_init := List.mem_of_getElem? (i := 14) (by decide +kernel)
theorem zw_X12_init_232 : Cond.fieldLink RX12 41 "ShortEnoughModel" "ownLetters" "[I" ∈ wsX12_init := List.mem_of_getElem? (i := 15) (by decide +kernel)
theorem zw_X12_init_233 : Cond.fieldLink RX12 44 "ShortEnoughModel" "in" "I" ∈ wsX12_init := List.mem_of_getElem? (i := 16) (by decide +kernel)
theorem zw_X12_init_234 : Cond.fieldLink RX12 47 "ShortEnoughModel" "formats" "[I" ∈ wsX12_init := List.mem_of_getElem? (i := 17) (by decide +kernel)
theorem zw_X12_init_235 : Cond.fieldLink RX12 50 "ShortEnoughModel" "formatName" "[I" ∈ wsX12_init := List.mem_of_getElem? (i := 18) (by decide +kernel)
theorem zw_X12_init_236 : Cond.fieldLink RX12 53 "ShortEnoughModel" "step" "[I" ∈ wsX12_init := List.mem_of_getElem? (i := 19) (by decide +kernel)
theorem zw_X12_init_237 : Cond.fieldLink RX12 56 "ShortEnoughModel" "most" "[I" ∈ wsX12_init := List.mem_of_getElem? (i := 20) (by decide +kernel)
theorem zw_X12_init_238 : Cond.fieldLink RX12 59 "ShortEnoughModel" "formatCost" "[I" ∈ wsX12_init := List.mem_of_getElem? (i := 21) (by decide +kernel)
theorem zw_X12_init_239 : Cond.fieldLink RX12 62 "ShortEnoughModel" "numbers" "[I" ∈ wsX12_init := List.mem_of_getElem? (i := 22) (by decide +kernel)
theorem zw_X12_init_240 : Cond.fieldLink RX12 65 "ShortEnoughModel" "numberName" "[I" ∈ wsX12_init := List.mem_of_getElem? (i := 23) (by decide +kernel)
theorem zw_X12_init_241 : Cond.fieldLink RX12 68 "ShortEnoughModel" "op" "[I" ∈ wsX12_init := List.mem_of_getElem? (i := 24) (by decide +kernel)
theorem zw_X12_init_242 : Cond.fieldLink RX12 71 "ShortEnoughModel" "first" "[I" ∈ wsX12_init := List.mem_of_getElem? (i := 25) (by decide +kernel)
theorem zw_X12_init_243 : Cond.fieldLink RX12 74 "ShortEnoughModel" "second" "[I" ∈ wsX12_init := List.mem_of_getElem? (i := 26) (by decide +kernel)
theorem zw_X12_init_244 : Cond.arrayClass .long ∈ wsX12_init := List.mem_of_getElem? (i := 27) (by decide +kernel)
theorem zw_X12_init_245 : Cond.fieldLink RX12 77 "ShortEnoughModel" "firstV" "[J" ∈ wsX12_init := List.mem_of_getElem? (i := 28) (by decide +kernel)
theorem zw_X12_init_246 : Cond.fieldLink RX12 81 "ShortEnoughModel" "secondV" "[J" ∈ wsX12_init := List.mem_of_getElem? (i := 29) (by decide +kernel)
theorem zw_X12_init_247 : Cond.fieldLink RX12 84 "ShortEnoughModel" "castCost" "[I" ∈ wsX12_init := List.mem_of_getElem? (i := 30) (by decide +kernel)
theorem zw_X12_init_248 : Cond.fieldLink RX12 87 "ShortEnoughModel" "fixedAs" "[I" ∈ wsX12_init := List.mem_of_getElem? (i := 31) (by decide +kernel)
theorem zw_X12_init_249 : Cond.fieldLink RX12 90 "ShortEnoughModel" "within" "[I" ∈ wsX12_init := List.mem_of_getElem? (i := 32) (by decide +kernel)
theorem zw_X12_init_250 : Cond.fieldLink RX12 93 "ShortEnoughModel" "groupOf" "[I" ∈ wsX12_init := List.mem_of_getElem? (i := 33) (by decide +kernel)
theorem zw_X12_init_251 : Cond.fieldLink RX12 96 "ShortEnoughModel" "whatV" "J" ∈ wsX12_init := List.mem_of_getElem? (i := 34) (by decide +kernel)
theorem zw_X12_init_252 : Cond.fieldLink RX12 100 "ShortEnoughModel" "free" "[I" ∈ wsX12_init := List.mem_of_getElem? (i := 35) (by decide +kernel)
theorem zw_X12_init_253 : Cond.fieldLink RX12 103 "ShortEnoughModel" "freeMany" "I" ∈ wsX12_init := List.mem_of_getElem? (i := 36) (by decide +kernel)
theorem zw_X12_init_254 : Cond.fieldLink RX12 106 "ShortEnoughModel" "least" "[J" ∈ wsX12_init := List.mem_of_getElem? (i := 37) (by decide +kernel)
theorem zw_X12_init_255 : Cond.fieldLink RX12 109 "ShortEnoughModel" "greatest" "[J" ∈ wsX12_init := List.mem_of_getElem? (i := 38) (by decide +kernel)
theorem zw_X12_init_256 : Cond.fieldLink RX12 112 "ShortEnoughModel" "wideNumber" "I" ∈ wsX12_init := List.mem_of_getElem? (i := 39) (by decide +kernel)
theorem zw_X12_init_257 : Cond.fieldLink RX12 115 "ShortEnoughModel" "wideBy" "J" ∈ wsX12_init := List.mem_of_getElem? (i := 40) (by decide +kernel)
theorem zw_X12_init_258 : Cond.arrayClass .boolean ∈ wsX12_init := List.mem_of_getElem? (i := 41) (by decide +kernel)
theorem zw_X12_init_259 : Cond.fieldLink RX12 118 "ShortEnoughModel" "isGreat" "[Z" ∈ wsX12_init := List.mem_of_getElem? (i := 42) (by decide +kernel)
theorem zw_X12_init_260 : Cond.fieldLink RX12 122 "ShortEnoughModel" "deep" "[I" ∈ wsX12_init := List.mem_of_getElem? (i := 43) (by decide +kernel)
theorem zw_X12_init_261 : Cond.fieldLink RX12 125 "ShortEnoughModel" "hand" "[I" ∈ wsX12_init := List.mem_of_getElem? (i := 44) (by decide +kernel)
theorem zw_X12_init_262 : Cond.fieldLink RX12 128 "ShortEnoughModel" "hasHand" "Z" ∈ wsX12_init := List.mem_of_getElem? (i := 45) (by decide +kernel)
theorem zw_X12_init_263 : Cond.fieldLink RX12 132 "ShortEnoughModel" "tried" "[I" ∈ wsX12_init := List.mem_of_getElem? (i := 46) (by decide +kernel)
theorem zw_X12_init_264 : Cond.fieldLink RX12 135 "ShortEnoughModel" "error" "[J" ∈ wsX12_init := List.mem_of_getElem? (i := 47) (by decide +kernel)
theorem zw_X12_init_265 : Cond.fieldLink RX12 138 "ShortEnoughModel" "failsAt" "I" ∈ wsX12_init := List.mem_of_getElem? (i := 48) (by decide +kernel)
theorem zw_X12_init_266 : Cond.fieldLink RX12 141 "ShortEnoughModel" "failsWhy" "I" ∈ wsX12_init := List.mem_of_getElem? (i := 49) (by decide +kernel)
theorem zw_X12_init_267 : Cond.fieldLink RX12 144 "ShortEnoughModel" "soFar" "[I" ∈ wsX12_init := List.mem_of_getElem? (i := 50) (by decide +kernel)
theorem zw_X12_init_268 : Cond.fieldLink RX12 147 "ShortEnoughModel" "soFarCost" "I" ∈ wsX12_init := List.mem_of_getElem? (i := 51) (by decide +kernel)
theorem zw_X12_init_269 : Cond.fieldLink RX12 150 "ShortEnoughModel" "tries" "I" ∈ wsX12_init := List.mem_of_getElem? (i := 52) (by decide +kernel)
theorem zw_X12_init_270 : Cond.fieldLink RX12 153 "ShortEnoughModel" "hasChanged" "[Z" ∈ wsX12_init := List.mem_of_getElem? (i := 53) (by decide +kernel)
theorem zw_X12_init_271 : Cond.fieldLink RX12 156 "ShortEnoughModel" "row" "[I" ∈ wsX12_init := List.mem_of_getElem? (i := 54) (by decide +kernel)
theorem zw_X12_init_272 : Cond.fieldLink RX12 159 "ShortEnoughModel" "partFrom" "[I" ∈ wsX12_init := List.mem_of_getElem? (i := 55) (by decide +kernel)
theorem zw_X12_init_273 : Cond.fieldLink RX12 162 "ShortEnoughModel" "partMany" "[I" ∈ wsX12_init := List.mem_of_getElem? (i := 56) (by decide +kernel)
theorem zw_X12_init_274 : Cond.fieldLink RX12 165 "ShortEnoughModel" "singlePass" "I" ∈ wsX12_init := List.mem_of_getElem? (i := 57) (by decide +kernel)
theorem zw_X12_init_275 : Cond.fieldLink RX12 168 "ShortEnoughModel" "singleLess" "I" ∈ wsX12_init := List.mem_of_getElem? (i := 58) (by decide +kernel)
theorem zw_X12_init_276 : Cond.fieldLink RX12 171 "ShortEnoughModel" "singleGroup" "I" ∈ wsX12_init := List.mem_of_getElem? (i := 59) (by decide +kernel)
theorem zw_X12_init_277 : Cond.fieldLink RX12 174 "ShortEnoughModel" "singleFormat" "I" ∈ wsX12_init := List.mem_of_getElem? (i := 60) (by decide +kernel)
theorem zw_X12_init_278 : Cond.fieldLink RX12 177 "ShortEnoughModel" "frontCost" "[I" ∈ wsX12_init := List.mem_of_getElem? (i := 61) (by decide +kernel)
theorem zw_X12_init_279 : Cond.fieldLink RX12 180 "ShortEnoughModel" "frontError" "[J" ∈ wsX12_init := List.mem_of_getElem? (i := 62) (by decide +kernel)
theorem zw_X12_init_280 : Cond.fieldLink RX12 183 "ShortEnoughModel" "frontMany" "[I" ∈ wsX12_init := List.mem_of_getElem? (i := 63) (by decide +kernel)
theorem zw_X12_init_281 : Cond.fieldLink RX12 186 "ShortEnoughModel" "fronts" "I" ∈ wsX12_init := List.mem_of_getElem? (i := 64) (by decide +kernel)
theorem zw_X12_init_282 : Cond.fieldLink RX12 189 "ShortEnoughModel" "brokenAt" "I" ∈ wsX12_init := List.mem_of_getElem? (i := 65) (by decide +kernel)
theorem zw_X12_init_283 : Cond.fieldLink RX12 192 "ShortEnoughModel" "brokenWhy" "I" ∈ wsX12_init := List.mem_of_getElem? (i := 66) (by decide +kernel)
theorem zw_X12_init_284 : Cond.fieldLink RX12 195 "ShortEnoughModel" "saysFormat" "[I" ∈ wsX12_init := List.mem_of_getElem? (i := 67) (by decide +kernel)
theorem zw_X12_init_285 : Cond.fieldLink RX12 198 "ShortEnoughModel" "saysLeast" "[J" ∈ wsX12_init := List.mem_of_getElem? (i := 68) (by decide +kernel)
theorem zw_X12_init_286 : Cond.fieldLink RX12 201 "ShortEnoughModel" "saysGreatest" "[J" ∈ wsX12_init := List.mem_of_getElem? (i := 69) (by decide +kernel)
theorem zw_X12_init_287 : Cond.fieldLink RX12 204 "ShortEnoughModel" "saysError" "[J" ∈ wsX12_init := List.mem_of_getElem? (i := 70) (by decide +kernel)
theorem zw_X12_init_288 : Cond.fieldLink RX12 207 "ShortEnoughModel" "seedNow" "I" ∈ wsX12_init := List.mem_of_getElem? (i := 71) (by decide +kernel)
theorem zw_X12_init_289 : Cond.fieldLink RX12 210 "ShortEnoughModel" "exact" "[J" ∈ wsX12_init := List.mem_of_getElem? (i := 72) (by decide +kernel)
theorem zw_X12_init_290 : Cond.fieldLink RX12 213 "ShortEnoughModel" "keptAs" "[J" ∈ wsX12_init := List.mem_of_getElem? (i := 73) (by decide +kernel)
set_option maxHeartbeats 4000000 in
set_option maxRecDepth 100000 in
theorem zc0_J0_coder_7d493 (l : Launch) (dC : Nat → ClassId) (dI : Nat → Nat → Nat) (adK adV : Nat → Nat)  (sz : Nat) : Met l yJ0_coder_7d493 wsJ0_coder_7d493 ({ frames := 0, cells := 0, slots := 0, locals := 0 }) (va_Pc [.ref (adK 0)] (fun U => zF adK adV (va_A [] sz) U U.heap ∧ U.heap.size = sz ∧ va_P (dC, dI) vwCl [] U.heap ∧ va_K (dC, dI) vwCl [] U ∧ va_D (fun _ => True) [])) (va_Qi (fun (r : Int32) (u : zU) => r = 0) (fun u t => va_P (dC, dI) vwCl [] t.heap ∧ va_K (dC, dI) vwCl [] t ∧ va_D (va_A [] sz) []) (va_A [] sz)) 0 0 (va_A [] sz) := by
  refine Met.ofW (cc := cJ0_coder_7d493) (maxL := 1) (ret := (some .byte)) (by decide +kernel) rfl ?_
  intro p e s m args below meth c s₁ B hml hv
  obtain ⟨rfl, hzf, hsz, hP, hK, hD0⟩ := hv
  have hx := B.exec
  have hb := B.bytes
  have hr := B.returns
  have hts := atoms_spec (ws := wsJ0_coder_7d493) B.pre
  have hown : s.vm.findClass RJ0 = some m.cls := findClass_of_methodNamed B.named
  have hlocks := B.notSynchronized
  subst hsz
  have hD := hD0.self (sz := s.heap.size)
  generalize hAe : va_A [] s.heap.size = A at hD hzf ⊢
  have hA : ∀ q : Nat, s.heap.size ≤ q → A q := fun q h => by rw [← hAe]; exact Or.inr h
  have hS : va_S A s.heap s.heap [] := va_S.rf
  have hP : va_P (dC, dI) vwCl [] s.heap := hP
  have hl := lv_entry ([.ref (adK 0)]) (n := 1) (Nat.le_of_ble_eq_true rfl)
  rw [lg_entry_eq]
  generalize (lg_sl ([.ref (adK 0)]) ++ List.replicate (1 - (lg_sl ([.ref (adK 0)])).length) Slot.unset).toArray = ls at hl ⊢
  have hl : lv_has ls 1 [(0, .ref (adK 0))] := hl
  refine va_gets (v := .int 1) hx hb hzf.2.2.1 hS hown (hts (.fieldLink RJ0 38 "java/lang/String" "COMPACT_STRINGS" "Z") zw_J0_coder_7d493_1) (fun _ h9 => h9) dJ0_coder_7d493_0 ?_
  refine lv_if_eq (tgt := 13) hx hb dJ0_coder_7d493_3 (by decide) (fun c_1 => absurd c_1 (by decide +kernel)) (fun c_1 => ?_)
  refine lv_aload_n hx hb dJ0_coder_7d493_6 rfl (lv_at hl 0 rfl) ?_
  refine vk_getf hx hb (hzf.2.1.1 0 (by decide)).2.1 hS hown (hts (.fieldLink RJ0 15 "java/lang/String" "coder" "B") zw_J0_coder_7d493_2) (fun _ h9 => h9) dJ0_coder_7d493_7 ?_
  refine lv_goto (tgt := 14) hx hb dJ0_coder_7d493_10 (by decide) ?_
  have hP9 := hP.sub (ws' := []) [] rfl
  have hD9 := hD.sub (ws' := []) [] (by decide) rfl
  have hK9 := hK.sub (tys' := []) [] rfl
  exact W.zret (v := 0) hx hb hr rfl (fun t ht hW => ⟨⟨0, ((fun k => ([] : List Nat).getD k 0), (fun k => ([] : List (Nat → Int32)).getD k (fun _ => 0))), rfl, rfl, by rw [ht]; exact hP9, va_K.moved hW.alike hK9, hD9⟩, hS.F ht⟩) hS.2.2 dJ0_coder_7d493_14
set_option maxHeartbeats 4000000 in
set_option maxRecDepth 100000 in
theorem zc1_J0_length_8abf5 (l : Launch) (dC : Nat → ClassId) (dI : Nat → Nat → Nat) (adK adV : Nat → Nat)  (sz : Nat) : Met l yJ0_length_8abf5 wsJ0_length_8abf5 ({ frames := 1, cells := 0, slots := 0, locals := 20 }) (va_Pc [.ref (adK 0)] (fun U => zF adK adV (va_A [] sz) U U.heap ∧ U.heap.size = sz ∧ va_P (dC, dI) vwCl [] U.heap ∧ va_K (dC, dI) vwCl [] U ∧ va_D (fun _ => True) [])) (va_Qi (fun (r : Int32) (u : zU) => r = 91) (fun u t => va_P (dC, dI) vwCl [] t.heap ∧ va_K (dC, dI) vwCl [] t ∧ va_D (va_A [] sz) []) (va_A [] sz)) 0 0 (va_A [] sz) := by
  refine Met.ofW (cc := cJ0_length_8abf5) (maxL := 1) (ret := (some .int)) (by decide +kernel) rfl ?_
  intro p e s m args below meth c s₁ B hml hv
  obtain ⟨rfl, hzf, hsz, hP, hK, hD0⟩ := hv
  have hx := B.exec
  have hb := B.bytes
  have hr := B.returns
  have hts := atoms_spec (ws := wsJ0_length_8abf5) B.pre
  have hown : s.vm.findClass RJ0 = some m.cls := findClass_of_methodNamed B.named
  have hlocks := B.notSynchronized
  subst hsz
  have hD := hD0.self (sz := s.heap.size)
  generalize hAe : va_A [] s.heap.size = A at hD hzf ⊢
  have hA : ∀ q : Nat, s.heap.size ≤ q → A q := fun q h => by rw [← hAe]; exact Or.inr h
  have hS : va_S A s.heap s.heap [] := va_S.rf
  have hP : va_P (dC, dI) vwCl [] s.heap := hP
  have hl := lv_entry ([.ref (adK 0)]) (n := 1) (Nat.le_of_ble_eq_true rfl)
  rw [lg_entry_eq]
  generalize (lg_sl ([.ref (adK 0)]) ++ List.replicate (1 - (lg_sl ([.ref (adK 0)])).length) Slot.unset).toArray = ls at hl ⊢
  have hl : lv_has ls 1 [(0, .ref (adK 0))] := hl
  refine lv_aload_n hx hb dJ0_length_8abf5_0 rfl (lv_at hl 0 rfl) ?_
  refine vk_getf hx hb (hzf.2.1.1 0 (by decide)).2.2.1 hS hown (hts (.fieldLink RJ0 9 "java/lang/String" "value" "[B") zw_J0_length_8abf5_0) (fun _ h9 => h9) dJ0_length_8abf5_1 ?_
  refine va_tlen (v := 91) hx hb (hzf.2.1.1 0 (by decide)).2.2.2 hS (by decide +kernel) dJ0_length_8abf5_4 ?_
  refine lv_aload_n hx hb dJ0_length_8abf5_5 rfl (lv_at hl 0 rfl) ?_
  have hPc := hP.sub (ws' := []) [] rfl
  have hDc := hD.sub (ws' := []) [] (by decide) rfl
  have hKc := hK.sub (tys' := []) [] rfl
  have hFc := va_free (wc := []) hD hS hA [] rfl
  refine va_calli (va_runV (As := []) (rest := [.int 91]) ⟨hx, hb, hml, hown, hts⟩ (zc0_J0_coder_7d493 l dC dI adK adV  s.heap.size) (cwV 0 hts gJ0_length_8abf5_J0_coder_7d493 rfl rfl rfl zhd_J0_coder_7d493 ⟨Nat.le_of_ble_eq_true rfl, Nat.le_of_ble_eq_true rfl⟩) ⟨fun a U g mk q => by obtain ⟨q0, n0, q1, qP, qK, qD⟩ := q; exact ⟨q0, zF_blind n0, q1, qP, va_K.moved (u := U) (U := U.calling g mk a) (Vm.Alike.refl U.vm) qK, qD⟩, vk_recv hzf.2.1 (by decide) hS, fun U hU hW => ⟨rfl, zF_to hzf hS hFc hW hU, by rw [hU], by rw [hU]; exact hPc, va_K.moved hW.alike hKc, hDc.weaken (fun _ _ _ _ => trivial)⟩⟩ rfl rfl hl.1 rfl (lv_room (Nat.le_of_ble_eq_true rfl)) dJ0_length_8abf5_6 ⟨Nat.le_of_ble_eq_true rfl, Nat.le_of_ble_eq_true rfl⟩) hS (fun q _ h => hFc q h) hFc (fun r_1 u_2 t H1 locs ht hvm hw_3 hB hz1 hk1 hS => ?_)
  obtain ⟨hP1, hK1, hD1⟩ := hB
  rw [ht] at hP1
  have hK1 := va_K.moved hvm.symm hK1
  obtain ⟨hP, hD⟩ := va_join (wr := []) (w1 := []) hP hD [] [] rfl rfl (by decide) (by decide) hk1 hFc hP1 hD1
  have hK := hK.app hK1
  generalize H1 = H at hP hS ⊢
  have hP : va_P (dC, dI) vwCl [] H := hP
  have hD : va_D A [] := hD
  have hK : va_K (dC, dI) vwCl [] s := hK
  obtain rfl : r_1 = 0 := hw_3
  refine lv_ishr hx hb dJ0_length_8abf5_9 ?_
  refine lv_topi (fun z_4 ez_4 => ?_)
  obtain rfl : z_4 = 91 := ez_4.trans (by decide +kernel)
  have hP9 := hP.sub (ws' := []) [] rfl
  have hD9 := hD.sub (ws' := []) [] (by decide) rfl
  have hK9 := hK.sub (tys' := []) [] rfl
  exact W.iret (v := 91) hx hb hr (fun t ht hW => ⟨⟨91, ((fun k => ([] : List Nat).getD k 0), (fun k => ([] : List (Nat → Int32)).getD k (fun _ => 0))), rfl, rfl, by rw [ht]; exact hP9, va_K.moved hW.alike hK9, hD9⟩, hS.F ht⟩) hS.2.2 dJ0_length_8abf5_10
set_option maxHeartbeats 4000000 in
set_option maxRecDepth 100000 in
theorem zc2_J0_isLatin1_aae02 (l : Launch) (dC : Nat → ClassId) (dI : Nat → Nat → Nat) (adK adV : Nat → Nat)  (sz : Nat) : Met l yJ0_isLatin1_aae02 wsJ0_isLatin1_aae02 ({ frames := 0, cells := 0, slots := 0, locals := 0 }) (va_Pc [.ref (adK 0)] (fun U => zF adK adV (va_A [] sz) U U.heap ∧ U.heap.size = sz ∧ va_P (dC, dI) vwCl [] U.heap ∧ va_K (dC, dI) vwCl [] U ∧ va_D (fun _ => True) [])) (va_Qi (fun (r : Int32) (u : zU) => r = 1) (fun u t => va_P (dC, dI) vwCl [] t.heap ∧ va_K (dC, dI) vwCl [] t ∧ va_D (va_A [] sz) []) (va_A [] sz)) 0 0 (va_A [] sz) := by
  refine Met.ofW (cc := cJ0_isLatin1_aae02) (maxL := 1) (ret := (some .boolean)) (by decide +kernel) rfl ?_
  intro p e s m args below meth c s₁ B hml hv
  obtain ⟨rfl, hzf, hsz, hP, hK, hD0⟩ := hv
  have hx := B.exec
  have hb := B.bytes
  have hr := B.returns
  have hts := atoms_spec (ws := wsJ0_isLatin1_aae02) B.pre
  have hown : s.vm.findClass RJ0 = some m.cls := findClass_of_methodNamed B.named
  have hlocks := B.notSynchronized
  subst hsz
  have hD := hD0.self (sz := s.heap.size)
  generalize hAe : va_A [] s.heap.size = A at hD hzf ⊢
  have hA : ∀ q : Nat, s.heap.size ≤ q → A q := fun q h => by rw [← hAe]; exact Or.inr h
  have hS : va_S A s.heap s.heap [] := va_S.rf
  have hP : va_P (dC, dI) vwCl [] s.heap := hP
  have hl := lv_entry ([.ref (adK 0)]) (n := 1) (Nat.le_of_ble_eq_true rfl)
  rw [lg_entry_eq]
  generalize (lg_sl ([.ref (adK 0)]) ++ List.replicate (1 - (lg_sl ([.ref (adK 0)])).length) Slot.unset).toArray = ls at hl ⊢
  have hl : lv_has ls 1 [(0, .ref (adK 0))] := hl
  refine va_gets (v := .int 1) hx hb hzf.2.2.1 hS hown (hts (.fieldLink RJ0 38 "java/lang/String" "COMPACT_STRINGS" "Z") zw_J0_isLatin1_aae02_3) (fun _ h9 => h9) dJ0_isLatin1_aae02_0 ?_
  refine lv_if_eq (tgt := 17) hx hb dJ0_isLatin1_aae02_3 (by decide) (fun c_1 => absurd c_1 (by decide +kernel)) (fun c_1 => ?_)
  refine lv_aload_n hx hb dJ0_isLatin1_aae02_6 rfl (lv_at hl 0 rfl) ?_
  refine vk_getf hx hb (hzf.2.1.1 0 (by decide)).2.1 hS hown (hts (.fieldLink RJ0 15 "java/lang/String" "coder" "B") zw_J0_isLatin1_aae02_4) (fun _ h9 => h9) dJ0_isLatin1_aae02_7 ?_
  refine lv_if_ne (tgt := 17) hx hb dJ0_isLatin1_aae02_10 (by decide) (fun c_2 => absurd (by decide +kernel) c_2) (fun c_2 => ?_)
  refine lv_iconst (v := 1) hx hb dJ0_isLatin1_aae02_13 zci_1 ?_
  refine lv_goto (tgt := 18) hx hb dJ0_isLatin1_aae02_14 (by decide) ?_
  have hP9 := hP.sub (ws' := []) [] rfl
  have hD9 := hD.sub (ws' := []) [] (by decide) rfl
  have hK9 := hK.sub (tys' := []) [] rfl
  exact W.zret (v := 1) hx hb hr rfl (fun t ht hW => ⟨⟨1, ((fun k => ([] : List Nat).getD k 0), (fun k => ([] : List (Nat → Int32)).getD k (fun _ => 0))), rfl, rfl, by rw [ht]; exact hP9, va_K.moved hW.alike hK9, hD9⟩, hS.F ht⟩) hS.2.2 dJ0_isLatin1_aae02_18
set_option maxHeartbeats 4000000 in
set_option maxRecDepth 100000 in
theorem zc3_J3_checkIndex_8e157 (l : Launch) (dC : Nat → ClassId) (dI : Nat → Nat → Nat) (p0 : Int32) (hq : 0 ≤ p0.toInt ∧ p0.toInt < 91) (sz : Nat) : Met l yJ3_checkIndex_8e157 wsJ3_checkIndex_8e157 ({ frames := 0, cells := 0, slots := 0, locals := 0 }) (va_Pc [.int p0, .int 91, .null] (fun U => U.heap.size = sz ∧ va_P (dC, dI) vwCl [] U.heap ∧ va_K (dC, dI) vwCl [] U ∧ va_D (fun _ => True) [])) (va_Qi (fun (r : Int32) (u : zU) => True) (fun u t => va_P (dC, dI) vwCl [] t.heap ∧ va_K (dC, dI) vwCl [] t ∧ va_D (va_A [] sz) []) (va_A [] sz)) 0 0 (va_A [] sz) := by
  refine Met.ofW (cc := cJ3_checkIndex_8e157) (maxL := 3) (ret := (some .int)) (by decide +kernel) rfl ?_
  intro p e s m args below meth c s₁ B hml hv
  obtain ⟨rfl, hsz, hP, hK, hD0⟩ := hv
  have hx := B.exec
  have hb := B.bytes
  have hr := B.returns
  have hts := atoms_spec (ws := wsJ3_checkIndex_8e157) B.pre
  have hown : s.vm.findClass RJ3 = some m.cls := findClass_of_methodNamed B.named
  have hlocks := B.notSynchronized
  subst hsz
  have hD := hD0.self (sz := s.heap.size)
  generalize hAe : va_A [] s.heap.size = A at hD ⊢
  have hA : ∀ q : Nat, s.heap.size ≤ q → A q := fun q h => by rw [← hAe]; exact Or.inr h
  have hS : va_S A s.heap s.heap [] := va_S.rf
  have hP : va_P (dC, dI) vwCl [] s.heap := hP
  have hl := lv_entry ([.int p0, .int 91, .null]) (n := 3) (Nat.le_of_ble_eq_true rfl)
  rw [lg_entry_eq]
  generalize (lg_sl ([.int p0, .int 91, .null]) ++ List.replicate (3 - (lg_sl ([.int p0, .int 91, .null])).length) Slot.unset).toArray = ls at hl ⊢
  have hl : lv_has ls 3 [(0, .int p0), (1, .int 91), (2, .null)] := hl
  refine lv_iload_n hx hb dJ3_checkIndex_8e157_0 rfl (lv_at hl 0 rfl) ?_
  refine lv_if_lt (tgt := 9) hx hb dJ3_checkIndex_8e157_1 (by decide) (fun c_1 => by exfalso; have ohq := id hq; have oc_1 := zi_lt c_1; have kI0 : (0 : Int32).toInt = 0 := (by decide +kernel); omega) (fun c_1 => ?_)
  refine lv_iload_n hx hb dJ3_checkIndex_8e157_4 rfl (lv_at hl 0 rfl) ?_
  refine lv_iload_n hx hb dJ3_checkIndex_8e157_5 rfl (lv_at hl 1 rfl) ?_
  refine lv_icmp_lt (tgt := 16) hx hb dJ3_checkIndex_8e157_6 (by decide) (fun c_2 => ?_) (fun c_2 => by exfalso; have ohq := id hq; have oc_1 := zi_nlt c_1; have kI0 : (0 : Int32).toInt = 0 := (by decide +kernel); have oc_2 := zi_nlt c_2; have kI91 : (91 : Int32).toInt = 91 := (by decide +kernel); omega)
  refine lv_iload_n hx hb dJ3_checkIndex_8e157_16 rfl (lv_at hl 0 rfl) ?_
  have hP9 := hP.sub (ws' := []) [] rfl
  have hD9 := hD.sub (ws' := []) [] (by decide) rfl
  have hK9 := hK.sub (tys' := []) [] rfl
  exact W.iret (v := p0) hx hb hr (fun t ht hW => ⟨⟨p0, ((fun k => ([] : List Nat).getD k 0), (fun k => ([] : List (Nat → Int32)).getD k (fun _ => 0))), rfl, trivial, by rw [ht]; exact hP9, va_K.moved hW.alike hK9, hD9⟩, hS.F ht⟩) hS.2.2 dJ3_checkIndex_8e157_17
set_option maxHeartbeats 4000000 in
set_option maxRecDepth 100000 in
theorem zc4_J3_checkIndex_8e157 (l : Launch) (dC : Nat → ClassId) (dI : Nat → Nat → Nat) (p0 : Int32) (h0 : Nat) (hq : 0 ≤ p0.toInt ∧ p0.toInt < 91) (sz : Nat) : Met l yJ3_checkIndex_8e157 wsJ3_checkIndex_8e157 ({ frames := 0, cells := 0, slots := 0, locals := 0 }) (va_Pc [.int p0, .int 91, .ref h0] (fun U => U.heap.size = sz ∧ va_P (dC, dI) vwCl [] U.heap ∧ va_K (dC, dI) vwCl [] U ∧ va_D (fun _ => True) [])) (va_Qi (fun (r : Int32) (u : zU) => True) (fun u t => va_P (dC, dI) vwCl [] t.heap ∧ va_K (dC, dI) vwCl [] t ∧ va_D (va_A [] sz) []) (va_A [] sz)) 0 0 (va_A [] sz) := by
  refine Met.ofW (cc := cJ3_checkIndex_8e157) (maxL := 3) (ret := (some .int)) (by decide +kernel) rfl ?_
  intro p e s m args below meth c s₁ B hml hv
  obtain ⟨rfl, hsz, hP, hK, hD0⟩ := hv
  have hx := B.exec
  have hb := B.bytes
  have hr := B.returns
  have hts := atoms_spec (ws := wsJ3_checkIndex_8e157) B.pre
  have hown : s.vm.findClass RJ3 = some m.cls := findClass_of_methodNamed B.named
  have hlocks := B.notSynchronized
  subst hsz
  have hD := hD0.self (sz := s.heap.size)
  generalize hAe : va_A [] s.heap.size = A at hD ⊢
  have hA : ∀ q : Nat, s.heap.size ≤ q → A q := fun q h => by rw [← hAe]; exact Or.inr h
  have hS : va_S A s.heap s.heap [] := va_S.rf
  have hP : va_P (dC, dI) vwCl [] s.heap := hP
  have hl := lv_entry ([.int p0, .int 91, .ref h0]) (n := 3) (Nat.le_of_ble_eq_true rfl)
  rw [lg_entry_eq]
  generalize (lg_sl ([.int p0, .int 91, .ref h0]) ++ List.replicate (3 - (lg_sl ([.int p0, .int 91, .ref h0])).length) Slot.unset).toArray = ls at hl ⊢
  have hl : lv_has ls 3 [(0, .int p0), (1, .int 91), (2, .ref h0)] := hl
  refine lv_iload_n hx hb dJ3_checkIndex_8e157_0 rfl (lv_at hl 0 rfl) ?_
  refine lv_if_lt (tgt := 9) hx hb dJ3_checkIndex_8e157_1 (by decide) (fun c_1 => by exfalso; have ohq := id hq; have oc_1 := zi_lt c_1; have kI0 : (0 : Int32).toInt = 0 := (by decide +kernel); omega) (fun c_1 => ?_)
  refine lv_iload_n hx hb dJ3_checkIndex_8e157_4 rfl (lv_at hl 0 rfl) ?_
  refine lv_iload_n hx hb dJ3_checkIndex_8e157_5 rfl (lv_at hl 1 rfl) ?_
  refine lv_icmp_lt (tgt := 16) hx hb dJ3_checkIndex_8e157_6 (by decide) (fun c_2 => ?_) (fun c_2 => by exfalso; have ohq := id hq; have oc_1 := zi_nlt c_1; have kI0 : (0 : Int32).toInt = 0 := (by decide +kernel); have oc_2 := zi_nlt c_2; have kI91 : (91 : Int32).toInt = 91 := (by decide +kernel); omega)
  refine lv_iload_n hx hb dJ3_checkIndex_8e157_16 rfl (lv_at hl 0 rfl) ?_
  have hP9 := hP.sub (ws' := []) [] rfl
  have hD9 := hD.sub (ws' := []) [] (by decide) rfl
  have hK9 := hK.sub (tys' := []) [] rfl
  exact W.iret (v := p0) hx hb hr (fun t ht hW => ⟨⟨p0, ((fun k => ([] : List Nat).getD k 0), (fun k => ([] : List (Nat → Int32)).getD k (fun _ => 0))), rfl, trivial, by rw [ht]; exact hP9, va_K.moved hW.alike hK9, hD9⟩, hS.F ht⟩) hS.2.2 dJ3_checkIndex_8e157_17
set_option maxHeartbeats 4000000 in
set_option maxRecDepth 100000 in
theorem zc5_J0_checkIndex_df160 (l : Launch) (dC : Nat → ClassId) (dI : Nat → Nat → Nat) (adK adV : Nat → Nat) (p0 : Int32) (hq : 0 ≤ p0.toInt ∧ p0.toInt < 91) (sz : Nat) : Met l yJ0_checkIndex_df160 wsJ0_checkIndex_df160 ({ frames := 1, cells := 0, slots := 0, locals := 22 }) (va_Pc [.int p0, .int 91] (fun U => zF adK adV (va_A [] sz) U U.heap ∧ U.heap.size = sz ∧ va_P (dC, dI) vwCl [] U.heap ∧ va_K (dC, dI) vwCl [] U ∧ va_D (fun _ => True) [])) (va_Qv (fun (u : zU) => True) (fun u t => va_P (dC, dI) vwCl [] t.heap ∧ va_K (dC, dI) vwCl [] t ∧ va_D (va_A [] sz) []) (va_A [] sz)) 0 0 (va_A [] sz) := by
  refine Met.ofW (cc := cJ0_checkIndex_df160) (maxL := 2) (ret := none) (by decide +kernel) rfl ?_
  intro p e s m args below meth c s₁ B hml hv
  obtain ⟨rfl, hzf, hsz, hP, hK, hD0⟩ := hv
  have hx := B.exec
  have hb := B.bytes
  have hr := B.returns
  have hts := atoms_spec (ws := wsJ0_checkIndex_df160) B.pre
  have hown : s.vm.findClass RJ0 = some m.cls := findClass_of_methodNamed B.named
  have hlocks := B.notSynchronized
  subst hsz
  have hD := hD0.self (sz := s.heap.size)
  generalize hAe : va_A [] s.heap.size = A at hD hzf ⊢
  have hA : ∀ q : Nat, s.heap.size ≤ q → A q := fun q h => by rw [← hAe]; exact Or.inr h
  have hS : va_S A s.heap s.heap [] := va_S.rf
  have hP : va_P (dC, dI) vwCl [] s.heap := hP
  have hl := lv_entry ([.int p0, .int 91]) (n := 2) (Nat.le_of_ble_eq_true rfl)
  rw [lg_entry_eq]
  generalize (lg_sl ([.int p0, .int 91]) ++ List.replicate (2 - (lg_sl ([.int p0, .int 91])).length) Slot.unset).toArray = ls at hl ⊢
  have hl : lv_has ls 2 [(0, .int p0), (1, .int 91)] := hl
  refine lv_iload_n hx hb dJ0_checkIndex_df160_0 rfl (lv_at hl 0 rfl) ?_
  refine lv_iload_n hx hb dJ0_checkIndex_df160_1 rfl (lv_at hl 1 rfl) ?_
  rcases hzf.2.2.2 with hz9 | ⟨t_1, hz9⟩
  · refine va_gets (v := .null) hx hb hz9 hS hown (hts (.fieldLink RJ0 1053 "jdk/internal/util/Preconditions" "SIOOBE_FORMATTER" "Ljava/util/function/BiFunction;") zw_J0_checkIndex_df160_6) (fun _ h9 => h9) dJ0_checkIndex_df160_2 ?_
    have hPc := hP.sub (ws' := []) [] rfl
    have hDc := hD.sub (ws' := []) [] (by decide) rfl
    have hKc := hK.sub (tys' := []) [] rfl
    have hFc := va_free (wc := []) hD hS hA [] rfl
    refine va_calli (va_runS (As := [.int p0, .int 91, .null]) (rest := []) ⟨hx, hb, hml, hown, hts⟩ (zc3_J3_checkIndex_8e157 l dC dI p0 (by have ohq := id hq; omega) s.heap.size) (va_cwS 3 hts gJ0_checkIndex_df160_J3_checkIndex_8e157 rfl rfl rfl zhd_J3_checkIndex_8e157.2 ⟨Nat.le_of_ble_eq_true rfl, Nat.le_of_ble_eq_true rfl⟩) ⟨fun a U g mk q => by obtain ⟨q0, q1, qP, qK, qD⟩ := q; exact ⟨q0, q1, qP, va_K.moved (u := U) (U := U.calling g mk a) (Vm.Alike.refl U.vm) qK, qD⟩, fun U hU hW => ⟨rfl, by rw [hU], by rw [hU]; exact hPc, va_K.moved hW.alike hKc, hDc.weaken (fun _ _ _ _ => trivial)⟩⟩ rfl rfl hl.1 rfl (lv_room (Nat.le_of_ble_eq_true rfl)) dJ0_checkIndex_df160_5 ⟨Nat.le_of_ble_eq_true rfl, Nat.le_of_ble_eq_true rfl⟩) hS (fun q _ h => hFc q h) hFc (fun r_2 u_3 t H1 locs ht hvm hw_4 hB hz1 hk1 hS => ?_)
    obtain ⟨hP1, hK1, hD1⟩ := hB
    rw [ht] at hP1
    have hK1 := va_K.moved hvm.symm hK1
    obtain ⟨hP, hD⟩ := va_join (wr := []) (w1 := []) hP hD [] [] rfl rfl (by decide) (by decide) hk1 hFc hP1 hD1
    have hK := hK.app hK1
    generalize H1 = H at hP hS ⊢
    have hP : va_P (dC, dI) vwCl [] H := hP
    have hD : va_D A [] := hD
    have hK : va_K (dC, dI) vwCl [] s := hK
    refine lv_pop hx hb dJ0_checkIndex_df160_8 rfl ?_
    have hP9 := hP.sub (ws' := []) [] rfl
    have hD9 := hD.sub (ws' := []) [] (by decide) rfl
    have hK9 := hK.sub (tys' := []) [] rfl
    exact W.vret hx hb hr (fun t ht hW => ⟨⟨((fun k => ([] : List Nat).getD k 0), (fun k => ([] : List (Nat → Int32)).getD k (fun _ => 0))), rfl, trivial, by rw [ht]; exact hP9, va_K.moved hW.alike hK9, hD9⟩, hS.F ht⟩) hS.2.2 dJ0_checkIndex_df160_9
  refine va_gets (v := (.ref t_1)) hx hb hz9 hS hown (hts (.fieldLink RJ0 1053 "jdk/internal/util/Preconditions" "SIOOBE_FORMATTER" "Ljava/util/function/BiFunction;") zw_J0_checkIndex_df160_6) (fun _ h9 => h9) dJ0_checkIndex_df160_2 ?_
  have hPc := hP.sub (ws' := []) [] rfl
  have hDc := hD.sub (ws' := []) [] (by decide) rfl
  have hKc := hK.sub (tys' := []) [] rfl
  have hFc := va_free (wc := []) hD hS hA [] rfl
  refine va_calli (va_runS (As := [.int p0, .int 91, .ref t_1]) (rest := []) ⟨hx, hb, hml, hown, hts⟩ (zc4_J3_checkIndex_8e157 l dC dI p0 t_1 (by have ohq := id hq; omega) s.heap.size) (va_cwS 3 hts gJ0_checkIndex_df160_J3_checkIndex_8e157 rfl rfl rfl zhd_J3_checkIndex_8e157.2 ⟨Nat.le_of_ble_eq_true rfl, Nat.le_of_ble_eq_true rfl⟩) ⟨fun a U g mk q => by obtain ⟨q0, q1, qP, qK, qD⟩ := q; exact ⟨q0, q1, qP, va_K.moved (u := U) (U := U.calling g mk a) (Vm.Alike.refl U.vm) qK, qD⟩, fun U hU hW => ⟨rfl, by rw [hU], by rw [hU]; exact hPc, va_K.moved hW.alike hKc, hDc.weaken (fun _ _ _ _ => trivial)⟩⟩ rfl rfl hl.1 rfl (lv_room (Nat.le_of_ble_eq_true rfl)) dJ0_checkIndex_df160_5 ⟨Nat.le_of_ble_eq_true rfl, Nat.le_of_ble_eq_true rfl⟩) hS (fun q _ h => hFc q h) hFc (fun r_5 u_6 t H1 locs ht hvm hw_7 hB hz1 hk1 hS => ?_)
  obtain ⟨hP1, hK1, hD1⟩ := hB
  rw [ht] at hP1
  have hK1 := va_K.moved hvm.symm hK1
  obtain ⟨hP, hD⟩ := va_join (wr := []) (w1 := []) hP hD [] [] rfl rfl (by decide) (by decide) hk1 hFc hP1 hD1
  have hK := hK.app hK1
  generalize H1 = H at hP hS ⊢
  have hP : va_P (dC, dI) vwCl [] H := hP
  have hD : va_D A [] := hD
  have hK : va_K (dC, dI) vwCl [] s := hK
  refine lv_pop hx hb dJ0_checkIndex_df160_8 rfl ?_
  have hP9 := hP.sub (ws' := []) [] rfl
  have hD9 := hD.sub (ws' := []) [] (by decide) rfl
  have hK9 := hK.sub (tys' := []) [] rfl
  exact W.vret hx hb hr (fun t ht hW => ⟨⟨((fun k => ([] : List Nat).getD k 0), (fun k => ([] : List (Nat → Int32)).getD k (fun _ => 0))), rfl, trivial, by rw [ht]; exact hP9, va_K.moved hW.alike hK9, hD9⟩, hS.F ht⟩) hS.2.2 dJ0_checkIndex_df160_9
set_option maxHeartbeats 4000000 in
set_option maxRecDepth 100000 in
theorem zc6_J1_charAt_3b067 (l : Launch) (dC : Nat → ClassId) (dI : Nat → Nat → Nat) (adK adV : Nat → Nat) (p0 : Int32) (hq : 0 ≤ p0.toInt ∧ p0.toInt < 91) (sz : Nat) : Met l yJ1_charAt_3b067 wsJ1_charAt_3b067 ({ frames := 2, cells := 0, slots := 0, locals := 43 }) (va_Pc [.ref (adV 0), .int p0] (fun U => zF adK adV (va_A [] sz) U U.heap ∧ U.heap.size = sz ∧ va_P (dC, dI) vwCl [] U.heap ∧ va_K (dC, dI) vwCl [] U ∧ va_D (fun _ => True) [])) (va_Qi (fun (r : Int32) (u : zU) => narrow .char (.int r) = .int r ∧ r = zChr p0) (fun u t => va_P (dC, dI) vwCl [] t.heap ∧ va_K (dC, dI) vwCl [] t ∧ va_D (va_A [] sz) []) (va_A [] sz)) 0 0 (va_A [] sz) := by
  refine Met.ofW (cc := cJ1_charAt_3b067) (maxL := 2) (ret := (some .char)) (by decide +kernel) rfl ?_
  intro p e s m args below meth c s₁ B hml hv
  obtain ⟨rfl, hzf, hsz, hP, hK, hD0⟩ := hv
  have hx := B.exec
  have hb := B.bytes
  have hr := B.returns
  have hts := atoms_spec (ws := wsJ1_charAt_3b067) B.pre
  have hown : s.vm.findClass RJ1 = some m.cls := findClass_of_methodNamed B.named
  have hlocks := B.notSynchronized
  subst hsz
  have hD := hD0.self (sz := s.heap.size)
  generalize hAe : va_A [] s.heap.size = A at hD hzf ⊢
  have hA : ∀ q : Nat, s.heap.size ≤ q → A q := fun q h => by rw [← hAe]; exact Or.inr h
  have hS : va_S A s.heap s.heap [] := va_S.rf
  have hP : va_P (dC, dI) vwCl [] s.heap := hP
  have hl := lv_entry ([.ref (adV 0), .int p0]) (n := 2) (Nat.le_of_ble_eq_true rfl)
  rw [lg_entry_eq]
  generalize (lg_sl ([.ref (adV 0), .int p0]) ++ List.replicate (2 - (lg_sl ([.ref (adV 0), .int p0])).length) Slot.unset).toArray = ls at hl ⊢
  have hl : lv_has ls 2 [(0, .ref (adV 0)), (1, .int p0)] := hl
  refine lv_iload_n hx hb dJ1_charAt_3b067_0 rfl (lv_at hl 1 rfl) ?_
  refine lv_aload_n hx hb dJ1_charAt_3b067_1 rfl (lv_at hl 0 rfl) ?_
  refine va_tlen (v := 91) hx hb (hzf.2.1.1 0 (by decide)).2.2.2 hS (by decide +kernel) dJ1_charAt_3b067_2 ?_
  have hPc := hP.sub (ws' := []) [] rfl
  have hDc := hD.sub (ws' := []) [] (by decide) rfl
  have hKc := hK.sub (tys' := []) [] rfl
  have hFc := va_free (wc := []) hD hS hA [] rfl
  refine va_callv (va_runS (As := [.int p0, .int 91]) (rest := []) ⟨hx, hb, hml, hown, hts⟩ (zc5_J0_checkIndex_df160 l dC dI adK adV p0 (by have ohq := id hq; omega) s.heap.size) (va_cwS 2 hts gJ1_charAt_3b067_J0_checkIndex_df160 rfl rfl rfl zhd_J0_checkIndex_df160.2 ⟨Nat.le_of_ble_eq_true rfl, Nat.le_of_ble_eq_true rfl⟩) ⟨fun a U g mk q => by obtain ⟨q0, n0, q1, qP, qK, qD⟩ := q; exact ⟨q0, zF_blind n0, q1, qP, va_K.moved (u := U) (U := U.calling g mk a) (Vm.Alike.refl U.vm) qK, qD⟩, fun U hU hW => ⟨rfl, zF_to hzf hS hFc hW hU, by rw [hU], by rw [hU]; exact hPc, va_K.moved hW.alike hKc, hDc.weaken (fun _ _ _ _ => trivial)⟩⟩ rfl rfl hl.1 rfl (lv_room (Nat.le_of_ble_eq_true rfl)) dJ1_charAt_3b067_3 ⟨Nat.le_of_ble_eq_true rfl, Nat.le_of_ble_eq_true rfl⟩) hS (fun q _ h => hFc q h) hFc (fun u_2 t H1 locs ht hvm hw_3 hB hz1 hk1 hS => ?_)
  obtain ⟨hP1, hK1, hD1⟩ := hB
  rw [ht] at hP1
  have hK1 := va_K.moved hvm.symm hK1
  obtain ⟨hP, hD⟩ := va_join (wr := []) (w1 := []) hP hD [] [] rfl rfl (by decide) (by decide) hk1 hFc hP1 hD1
  have hK := hK.app hK1
  generalize H1 = H at hP hS ⊢
  have hP : va_P (dC, dI) vwCl [] H := hP
  have hD : va_D A [] := hD
  have hK : va_K (dC, dI) vwCl [] s := hK
  refine lv_aload_n hx hb dJ1_charAt_3b067_6 rfl (lv_at hl 0 rfl) ?_
  refine lv_iload_n hx hb dJ1_charAt_3b067_7 rfl (lv_at hl 1 rfl) ?_
  refine va_tb (v := .int (([zBY].getD 0 []).getD (p0).toNatClampNeg 0)) hx hb (hzf.2.1.1 0 (by decide)).2.2.2 hS (by have ohq := id hq; exact vp_in_iff.mpr ⟨by omega, by simp only [List.getD_cons_zero]; omega⟩) rfl dJ1_charAt_3b067_8 ?_
  refine lv_topi (fun x_4 ex_4 => ?_)
  refine lv_sipush (v := 255) hx hb dJ1_charAt_3b067_9 zcs_255 ?_
  refine lv_iand hx hb dJ1_charAt_3b067_12 ?_
  refine lv_topi (fun x_5 ex_5 => ?_)
  obtain ⟨x_6, ex_6⟩ : ∃ y : Int32, (x_5.toUInt32 % 65536).toInt32 = y := ⟨_, rfl⟩
  refine lv_i2c (v := x_6) hx hb dJ1_charAt_3b067_13 ex_6 ?_
  have hP9 := hP.sub (ws' := []) [] rfl
  have hD9 := hD.sub (ws' := []) [] (by decide) rfl
  have hK9 := hK.sub (tys' := []) [] rfl
  exact W.zret (v := x_6) hx hb hr (zn_c2 ex_6) (fun t ht hW => ⟨⟨x_6, ((fun k => ([] : List Nat).getD k 0), (fun k => ([] : List (Nat → Int32)).getD k (fun _ => 0))), rfl, ⟨(zn_c2 ex_6), zChr_of ex_4 ex_5 ex_6⟩, by rw [ht]; exact hP9, va_K.moved hW.alike hK9, hD9⟩, hS.F ht⟩) hS.2.2 dJ1_charAt_3b067_14
set_option maxHeartbeats 4000000 in
set_option maxRecDepth 100000 in
theorem zc7_J0_charAt_5068e (l : Launch) (dC : Nat → ClassId) (dI : Nat → Nat → Nat) (adK adV : Nat → Nat) (p0 : Int32) (hq : 0 ≤ p0.toInt ∧ p0.toInt < 91) (sz : Nat) : Met l yJ0_charAt_5068e wsJ0_charAt_5068e ({ frames := 3, cells := 0, slots := 0, locals := 64 }) (va_Pc [.ref (adK 0), .int p0] (fun U => zF adK adV (va_A [] sz) U U.heap ∧ U.heap.size = sz ∧ va_P (dC, dI) vwCl [] U.heap ∧ va_K (dC, dI) vwCl [] U ∧ va_D (fun _ => True) [])) (va_Qi (fun (r : Int32) (u : zU) => narrow .char (.int r) = .int r ∧ r = zChr p0) (fun u t => va_P (dC, dI) vwCl [] t.heap ∧ va_K (dC, dI) vwCl [] t ∧ va_D (va_A [] sz) []) (va_A [] sz)) 0 0 (va_A [] sz) := by
  refine Met.ofW (cc := cJ0_charAt_5068e) (maxL := 2) (ret := (some .char)) (by decide +kernel) rfl ?_
  intro p e s m args below meth c s₁ B hml hv
  obtain ⟨rfl, hzf, hsz, hP, hK, hD0⟩ := hv
  have hx := B.exec
  have hb := B.bytes
  have hr := B.returns
  have hts := atoms_spec (ws := wsJ0_charAt_5068e) B.pre
  have hown : s.vm.findClass RJ0 = some m.cls := findClass_of_methodNamed B.named
  have hlocks := B.notSynchronized
  subst hsz
  have hD := hD0.self (sz := s.heap.size)
  generalize hAe : va_A [] s.heap.size = A at hD hzf ⊢
  have hA : ∀ q : Nat, s.heap.size ≤ q → A q := fun q h => by rw [← hAe]; exact Or.inr h
  have hS : va_S A s.heap s.heap [] := va_S.rf
  have hP : va_P (dC, dI) vwCl [] s.heap := hP
  have hl := lv_entry ([.ref (adK 0), .int p0]) (n := 2) (Nat.le_of_ble_eq_true rfl)
  rw [lg_entry_eq]
  generalize (lg_sl ([.ref (adK 0), .int p0]) ++ List.replicate (2 - (lg_sl ([.ref (adK 0), .int p0])).length) Slot.unset).toArray = ls at hl ⊢
  have hl : lv_has ls 2 [(0, .ref (adK 0)), (1, .int p0)] := hl
  refine lv_aload_n hx hb dJ0_charAt_5068e_0 rfl (lv_at hl 0 rfl) ?_
  have hPc := hP.sub (ws' := []) [] rfl
  have hDc := hD.sub (ws' := []) [] (by decide) rfl
  have hKc := hK.sub (tys' := []) [] rfl
  have hFc := va_free (wc := []) hD hS hA [] rfl
  refine va_calli (va_runV (As := []) (rest := []) ⟨hx, hb, hml, hown, hts⟩ (zc2_J0_isLatin1_aae02 l dC dI adK adV  s.heap.size) (cwV 0 hts gJ0_charAt_5068e_J0_isLatin1_aae02 rfl rfl rfl zhd_J0_isLatin1_aae02 ⟨Nat.le_of_ble_eq_true rfl, Nat.le_of_ble_eq_true rfl⟩) ⟨fun a U g mk q => by obtain ⟨q0, n0, q1, qP, qK, qD⟩ := q; exact ⟨q0, zF_blind n0, q1, qP, va_K.moved (u := U) (U := U.calling g mk a) (Vm.Alike.refl U.vm) qK, qD⟩, vk_recv hzf.2.1 (by decide) hS, fun U hU hW => ⟨rfl, zF_to hzf hS hFc hW hU, by rw [hU], by rw [hU]; exact hPc, va_K.moved hW.alike hKc, hDc.weaken (fun _ _ _ _ => trivial)⟩⟩ rfl rfl hl.1 rfl (lv_room (Nat.le_of_ble_eq_true rfl)) dJ0_charAt_5068e_1 ⟨Nat.le_of_ble_eq_true rfl, Nat.le_of_ble_eq_true rfl⟩) hS (fun q _ h => hFc q h) hFc (fun r_1 u_2 t H1 locs ht hvm hw_3 hB hz1 hk1 hS => ?_)
  obtain ⟨hP1, hK1, hD1⟩ := hB
  rw [ht] at hP1
  have hK1 := va_K.moved hvm.symm hK1
  obtain ⟨hP, hD⟩ := va_join (wr := []) (w1 := []) hP hD [] [] rfl rfl (by decide) (by decide) hk1 hFc hP1 hD1
  have hK := hK.app hK1
  generalize H1 = H at hP hS ⊢
  have hP : va_P (dC, dI) vwCl [] H := hP
  have hD : va_D A [] := hD
  have hK : va_K (dC, dI) vwCl [] s := hK
  obtain rfl : r_1 = 1 := hw_3
  refine lv_if_eq (tgt := 16) hx hb dJ0_charAt_5068e_4 (by decide) (fun c_4 => absurd c_4 (by decide +kernel)) (fun c_4 => ?_)
  refine lv_aload_n hx hb dJ0_charAt_5068e_7 rfl (lv_at hl 0 rfl) ?_
  refine vk_getf hx hb (hzf.2.1.1 0 (by decide)).2.2.1 hS hown (hts (.fieldLink RJ0 9 "java/lang/String" "value" "[B") zw_J0_charAt_5068e_5) (fun _ h9 => h9) dJ0_charAt_5068e_8 ?_
  refine lv_iload_n hx hb dJ0_charAt_5068e_11 rfl (lv_at hl 1 rfl) ?_
  have hPc := hP.sub (ws' := []) [] rfl
  have hDc := hD.sub (ws' := []) [] (by decide) rfl
  have hKc := hK.sub (tys' := []) [] rfl
  have hFc := va_free (wc := []) hD hS hA [] rfl
  refine va_calli (va_runS (As := [.ref (adV 0), .int p0]) (rest := []) ⟨hx, hb, hml, hown, hts⟩ (zc6_J1_charAt_3b067 l dC dI adK adV p0 (by have ohq := id hq; omega) H.size) (va_cwS 2 hts gJ0_charAt_5068e_J1_charAt_3b067 rfl rfl rfl zhd_J1_charAt_3b067.2 ⟨Nat.le_of_ble_eq_true rfl, Nat.le_of_ble_eq_true rfl⟩) ⟨fun a U g mk q => by obtain ⟨q0, n0, q1, qP, qK, qD⟩ := q; exact ⟨q0, zF_blind n0, q1, qP, va_K.moved (u := U) (U := U.calling g mk a) (Vm.Alike.refl U.vm) qK, qD⟩, fun U hU hW => ⟨rfl, zF_to hzf hS hFc hW hU, by rw [hU], by rw [hU]; exact hPc, va_K.moved hW.alike hKc, hDc.weaken (fun _ _ _ _ => trivial)⟩⟩ rfl rfl hl.1 rfl (lv_room (Nat.le_of_ble_eq_true rfl)) dJ0_charAt_5068e_12 ⟨Nat.le_of_ble_eq_true rfl, Nat.le_of_ble_eq_true rfl⟩) hS (fun q _ h => hFc q h) hFc (fun r_5 u_6 t H1 locs ht hvm hw_7 hB hz1 hk1 hS => ?_)
  obtain ⟨hP1, hK1, hD1⟩ := hB
  rw [ht] at hP1
  have hK1 := va_K.moved hvm.symm hK1
  obtain ⟨hP, hD⟩ := va_join (wr := []) (w1 := []) hP hD [] [] rfl rfl (by decide) (by decide) hk1 hFc hP1 hD1
  have hK := hK.app hK1
  generalize H1 = H at hP hS ⊢
  have hP : va_P (dC, dI) vwCl [] H := hP
  have hD : va_D A [] := hD
  have hK : va_K (dC, dI) vwCl [] s := hK
  have hP9 := hP.sub (ws' := []) [] rfl
  have hD9 := hD.sub (ws' := []) [] (by decide) rfl
  have hK9 := hK.sub (tys' := []) [] rfl
  exact W.zret (v := r_5) hx hb hr hw_7.1 (fun t ht hW => ⟨⟨r_5, ((fun k => ([] : List Nat).getD k 0), (fun k => ([] : List (Nat → Int32)).getD k (fun _ => 0))), rfl, hw_7, by rw [ht]; exact hP9, va_K.moved hW.alike hK9, hD9⟩, hS.F ht⟩) hS.2.2 dJ0_charAt_5068e_15
set_option maxHeartbeats 4000000 in
set_option maxRecDepth 100000 in
theorem words_in {p : Program} {l : Launch} {e : Env} {R : Room} {s : State} {m : MethodId} {args : Array Value} {below : List Frame} {meth : Method} {c : Code} {Q : State → Prop} {dC : Nat → ClassId} {dI : Nat → Nat → Nat} {A : Nat → Prop} {adK adV : Nat → Nat} (hx : p.tables.exec = Jvm.exec) (hb : c.code = cX10_init) (hml : c.maxLocals = 5) (hown : s.vm.findClass RX10 = some m.cls) (hts : ∀ w ∈ wsX10_init, w.before args s = true) (hA : ∀ q : Nat, s.heap.size ≤ q → A q) (hzf : zF adK adV A s s.heap) (hR : 6 ≤ R.frames ∧ 200 ≤ R.locals ∧ 2 ≤ R.cells ∧ 13 ≤ R.slots) (h0 q1 q2 a1 : Nat) (hK : va_K (dC, dI) vwCl [(a1, .int)] s) : ∀ (n : Nat) (x1 x2 : Int32) (f : Nat → Int32) (H : Heap) (locs : List Loc) (ls : Array Slot), 0 ≤ x1.toInt ∧ x1.toInt < 13 → 0 ≤ x2.toInt ∧ x2.toInt + n = 6 → zOwnI x1 x2 f → (∀ (f : Nat → Int32) (H : Heap) (locs : List Loc) (ls : Array Slot), zOwnI x1 6 f → va_P (dC, dI) vwCl [(h0, .inr (10, [.ref q1, .ref q2, .int 0, .int 0, .int 0, .int 0, .int 0, .int 0])), (q1, .inl (a1, 13, .inl f))] H → va_D A [(h0, .inr (10, [.ref q1, .ref q2, .int 0, .int 0, .int 0, .int 0, .int 0, .int 0])), (q1, .inl (a1, 13, .inl f))] → va_S A s.heap H locs → lv_has ls 5 [(1, .int x1), (0, .ref h0)] → W p l e R s m args below meth c H locs 2 13 Q (F0 m 103 ls [])) → va_P (dC, dI) vwCl [(h0, .inr (10, [.ref q1, .ref q2, .int 0, .int 0, .int 0, .int 0, .int 0, .int 0])), (q1, .inl (a1, 13, .inl f))] H → va_D A [(h0, .inr (10, [.ref q1, .ref q2, .int 0, .int 0, .int 0, .int 0, .int 0, .int 0])), (q1, .inl (a1, 13, .inl f))] → va_S A s.heap H locs → lv_has ls 5 [(2, .int x2), (1, .int x1), (0, .ref h0)] → W p l e R s m args below meth c H locs 2 13 Q (F0 m 29 ls []) := by
  intro n
  induction n with
  | zero =>
    intro x1 x2 f H locs ls hx1 hx2 hF hk hP hD hS hl
    refine lv_iload_n hx hb dX10_init_29 rfl (lv_at hl 0 rfl) ?_
    refine lv_bipush (v := 6) hx hb dX10_init_30 zcb_6 ?_
    refine lv_icmp_ge (tgt := 103) hx hb dX10_init_32 (by decide) (fun c_1 => ?_) (fun c_1 => by exfalso; have ohx1 := id hx1; have ohx2 := id hx2; have oc_1 := zi_nle c_1; have kI6 : (6 : Int32).toInt = 6 := (by decide +kernel); omega)
    exact hk f H locs ls (zOwnI_6 (by omega) hF) hP hD hS (lv_sub hl [1, 2] rfl)
  | succ n ih =>
    intro x1 x2 f H locs ls hx1 hx2 hF hk hP hD hS hl
    refine lv_iload_n hx hb dX10_init_29 rfl (lv_at hl 0 rfl) ?_
    refine lv_bipush (v := 6) hx hb dX10_init_30 zcb_6 ?_
    refine lv_icmp_ge (tgt := 103) hx hb dX10_init_32 (by decide) (fun c_1 => by exfalso; have ohx1 := id hx1; have ohx2 := id hx2; have oc_1 := zi_le c_1; have kI6 : (6 : Int32).toInt = 6 := (by decide +kernel); omega) (fun c_1 => ?_)
    refine lv_iload_n hx hb dX10_init_35 rfl (lv_at hl 1 rfl) ?_
    refine lv_bipush (v := 7) hx hb dX10_init_36 zcb_7 ?_
    refine lv_imul hx hb dX10_init_38 ?_
    refine lv_topi (fun x_2 ex_2 => ?_)
    refine lv_iload_n hx hb dX10_init_39 rfl (lv_at hl 0 rfl) ?_
    refine lv_iadd hx hb dX10_init_40 ?_
    refine lv_topi (fun x_3 ex_3 => ?_)
    have hx_3 := z_at ex_2 ex_3 hx1 (by omega)
    refine lv_istore_n (lv' := [(3, .int x_3), (2, .int x2), (1, .int x1), (0, .ref h0)]) hx hb dX10_init_41 rfl hl (by decide) rfl (fun ls hl => ?_)
    refine lv_iload_n hx hb dX10_init_42 rfl (lv_at hl 0 rfl) ?_
    refine va_ldcS hx hb hown hzf.1 dX10_init_43 ?_
    have hPc := hP.sub (ws' := []) [] rfl
    have hDc := hD.sub (ws' := []) [] (by decide) rfl
    have hKc := hK.sub (tys' := []) [] rfl
    have hFc := va_free (wc := []) hD hS hA [] rfl
    refine va_calli (va_runV (As := []) (rest := [.int x_3]) ⟨hx, hb, hml, hown, hts⟩ (zc1_J0_length_8abf5 l dC dI adK adV  H.size) (cwV 0 hts gX10_init_J0_length_8abf5 rfl rfl rfl zhd_J0_length_8abf5 ⟨Nat.le_trans (Nat.le_of_ble_eq_true rfl) hR.1, Nat.le_trans (Nat.le_of_ble_eq_true rfl) hR.2.1⟩) ⟨fun a U g mk q => by obtain ⟨q0, n0, q1, qP, qK, qD⟩ := q; exact ⟨q0, zF_blind n0, q1, qP, va_K.moved (u := U) (U := U.calling g mk a) (Vm.Alike.refl U.vm) qK, qD⟩, vk_recv hzf.2.1 (by decide) hS, fun U hU hW => ⟨rfl, zF_to hzf hS hFc hW hU, by rw [hU], by rw [hU]; exact hPc, va_K.moved hW.alike hKc, hDc.weaken (fun _ _ _ _ => trivial)⟩⟩ rfl rfl hl.1 rfl (lv_room (Nat.le_of_ble_eq_true rfl)) dX10_init_45 ⟨Nat.le_trans (Nat.le_of_ble_eq_true rfl) hR.2.2.1, Nat.le_trans (Nat.le_of_ble_eq_true rfl) hR.2.2.2⟩) hS (fun q _ h => hFc q h) hFc (fun r_4 u_5 t H1 locs ht hvm hw_6 hB hz1 hk1 hS => ?_)
    obtain ⟨hP1, hK1, hD1⟩ := hB
    rw [ht] at hP1
    have hK1 := va_K.moved hvm.symm hK1
    obtain ⟨hP, hD⟩ := va_join (wr := [(h0, .inr (10, [.ref q1, .ref q2, .int 0, .int 0, .int 0, .int 0, .int 0, .int 0])), (q1, .inl (a1, 13, .inl f))]) (w1 := []) hP hD [] [0, 1] rfl rfl (by decide) (by decide) hk1 hFc hP1 hD1
    have hK := hK.app hK1
    generalize H1 = H at hP hS ⊢
    have hP : va_P (dC, dI) vwCl [(h0, .inr (10, [.ref q1, .ref q2, .int 0, .int 0, .int 0, .int 0, .int 0, .int 0])), (q1, .inl (a1, 13, .inl f))] H := hP
    have hD : va_D A [(h0, .inr (10, [.ref q1, .ref q2, .int 0, .int 0, .int 0, .int 0, .int 0, .int 0])), (q1, .inl (a1, 13, .inl f))] := hD
    have hK : va_K (dC, dI) vwCl [(a1, .int)] s := hK
    obtain rfl : r_4 = 91 := hw_6
    refine lv_icmp_ge (tgt := 60) hx hb dX10_init_48 (by decide) (fun c_7 => by exfalso; have ohx1 := id hx1; have ohx2 := id hx2; have oc_1 := zi_nle c_1; have kI6 : (6 : Int32).toInt = 6 := (by decide +kernel); have ohx_3 := id hx_3; have oc_7 := zi_le c_7; have kI91 : (91 : Int32).toInt = 91 := (by decide +kernel); omega) (fun c_7 => ?_)
    refine va_ldcS hx hb hown hzf.1 dX10_init_51 ?_
    refine lv_iload_n hx hb dX10_init_53 rfl (lv_at hl 0 rfl) ?_
    have hPc := hP.sub (ws' := []) [] rfl
    have hDc := hD.sub (ws' := []) [] (by decide) rfl
    have hKc := hK.sub (tys' := []) [] rfl
    have hFc := va_free (wc := []) hD hS hA [] rfl
    refine va_calli (va_runV (As := [.int x_3]) (rest := []) ⟨hx, hb, hml, hown, hts⟩ (zc7_J0_charAt_5068e l dC dI adK adV x_3 (by have ohx1 := id hx1; have ohx2 := id hx2; have oc_1 := zi_nle c_1; have kI6 : (6 : Int32).toInt = 6 := (by decide +kernel); have ohx_3 := id hx_3; have oc_7 := zi_nle c_7; have kI91 : (91 : Int32).toInt = 91 := (by decide +kernel); omega) H.size) (cwV 1 hts gX10_init_J0_charAt_5068e rfl rfl rfl zhd_J0_charAt_5068e ⟨Nat.le_trans (Nat.le_of_ble_eq_true rfl) hR.1, Nat.le_trans (Nat.le_of_ble_eq_true rfl) hR.2.1⟩) ⟨fun a U g mk q => by obtain ⟨q0, n0, q1, qP, qK, qD⟩ := q; exact ⟨q0, zF_blind n0, q1, qP, va_K.moved (u := U) (U := U.calling g mk a) (Vm.Alike.refl U.vm) qK, qD⟩, vk_recv hzf.2.1 (by decide) hS, fun U hU hW => ⟨rfl, zF_to hzf hS hFc hW hU, by rw [hU], by rw [hU]; exact hPc, va_K.moved hW.alike hKc, hDc.weaken (fun _ _ _ _ => trivial)⟩⟩ rfl rfl hl.1 rfl (lv_room (Nat.le_of_ble_eq_true rfl)) dX10_init_54 ⟨Nat.le_trans (Nat.le_of_ble_eq_true rfl) hR.2.2.1, Nat.le_trans (Nat.le_of_ble_eq_true rfl) hR.2.2.2⟩) hS (fun q _ h => hFc q h) hFc (fun r_8 u_9 t H1 locs ht hvm hw_10 hB hz1 hk1 hS => ?_)
    obtain ⟨hP1, hK1, hD1⟩ := hB
    rw [ht] at hP1
    have hK1 := va_K.moved hvm.symm hK1
    obtain ⟨hP, hD⟩ := va_join (wr := [(h0, .inr (10, [.ref q1, .ref q2, .int 0, .int 0, .int 0, .int 0, .int 0, .int 0])), (q1, .inl (a1, 13, .inl f))]) (w1 := []) hP hD [] [0, 1] rfl rfl (by decide) (by decide) hk1 hFc hP1 hD1
    have hK := hK.app hK1
    generalize H1 = H at hP hS ⊢
    have hP : va_P (dC, dI) vwCl [(h0, .inr (10, [.ref q1, .ref q2, .int 0, .int 0, .int 0, .int 0, .int 0, .int 0])), (q1, .inl (a1, 13, .inl f))] H := hP
    have hD : va_D A [(h0, .inr (10, [.ref q1, .ref q2, .int 0, .int 0, .int 0, .int 0, .int 0, .int 0])), (q1, .inl (a1, 13, .inl f))] := hD
    have hK : va_K (dC, dI) vwCl [(a1, .int)] s := hK
    refine lv_goto (tgt := 62) hx hb dX10_init_57 (by decide) ?_
    refine lv_istore (lv' := [(4, .int r_8), (3, .int x_3), (2, .int x2), (1, .int x1), (0, .ref h0)]) hx hb dX10_init_62 hl (by decide) rfl (fun ls hl => ?_)
    refine lv_aload_n hx hb dX10_init_64 rfl (lv_at hl 4 rfl) ?_
    refine va_get (D := (dC, dI)) (ci := 10) (v := .ref q1) (C := RX10) (T := TX10) (N := 8) hx hb hts zn_X10_init_X10 hown hK hP 0 rfl rfl 0 (by decide) (hts (.fieldLink RX10 11 "ShortEnough$Words" "ownNames" "[I") zw_X10_init_8) (fun _ h9 => h9) rfl dX10_init_65 ?_
    refine lv_iload_n hx hb dX10_init_68 rfl (lv_at hl 3 rfl) ?_
    refine lv_aload_n hx hb dX10_init_69 rfl (lv_at hl 4 rfl) ?_
    refine va_get (D := (dC, dI)) (ci := 10) (v := .ref q1) (C := RX10) (T := TX10) (N := 8) hx hb hts zn_X10_init_X10 hown hK hP 0 rfl rfl 0 (by decide) (hts (.fieldLink RX10 11 "ShortEnough$Words" "ownNames" "[I") zw_X10_init_8) (fun _ h9 => h9) rfl dX10_init_70 ?_
    refine lv_iload_n hx hb dX10_init_73 rfl (lv_at hl 3 rfl) ?_
    refine va_iald hx hb hK hP 1 0 rfl rfl (by have ohx1 := id hx1; have ohx2 := id hx2; have oc_1 := zi_nle c_1; have kI6 : (6 : Int32).toInt = 6 := (by decide +kernel); have ohx_3 := id hx_3; have oc_7 := zi_nle c_7; have kI91 : (91 : Int32).toInt = 91 := (by decide +kernel); exact vp_in_iff.mpr ⟨by omega, by omega⟩) dX10_init_74 ?_
    refine lv_topi (fun x_11 ex_11 => ?_)
    refine lv_iconst (v := 5) hx hb dX10_init_75 zci_5 ?_
    refine lv_ishl hx hb dX10_init_76 ?_
    refine lv_topi (fun x_12 ex_12 => ?_)
    refine lv_iload hx hb dX10_init_77 (lv_at hl 0 rfl) ?_
    refine lv_bipush (v := 32) hx hb dX10_init_79 zcb_32 ?_
    refine lv_icmp_ne (tgt := 88) hx hb dX10_init_81 (by decide) (fun c_13 => ?_) (fun c_13 => ?_)
    · refine lv_iload hx hb dX10_init_88 (lv_at hl 0 rfl) ?_
      refine lv_bipush (v := 97) hx hb dX10_init_90 zcb_97 ?_
      refine lv_isub hx hb dX10_init_92 ?_
      refine lv_topi (fun x_14 ex_14 => ?_)
      refine lv_iconst (v := 1) hx hb dX10_init_93 zci_1 ?_
      refine lv_iadd hx hb dX10_init_94 ?_
      refine lv_topi (fun x_15 ex_15 => ?_)
      refine lv_ior hx hb dX10_init_95 ?_
      refine lv_topi (fun x_16 ex_16 => ?_)
      refine va_iast hx hb hK hP hD hS 1 0 rfl rfl (by have ohx1 := id hx1; have ohx2 := id hx2; have oc_1 := zi_nle c_1; have kI6 : (6 : Int32).toInt = 6 := (by decide +kernel); have ohx_3 := id hx_3; have oc_7 := zi_nle c_7; have kI91 : (91 : Int32).toInt = 91 := (by decide +kernel); have oc_13 := zi_ne c_13; have kI32 : (32 : Int32).toInt = 32 := (by decide +kernel); exact vp_in_iff.mpr ⟨by omega, by omega⟩) dX10_init_96 (fun H locs hP hD hS => ?_)
      obtain ⟨f_17, ef_17⟩ : ∃ g : Nat → Int32, g = (upd f (x1 : Int32).toNatClampNeg x_16) := ⟨_, rfl⟩
      have hP : va_P (dC, dI) vwCl [(h0, .inr (10, [.ref q1, .ref q2, .int 0, .int 0, .int 0, .int 0, .int 0, .int 0])), (q1, .inl (a1, 13, .inl f_17))] H := by rw [ef_17]; exact hP
      have hD : va_D A [(h0, .inr (10, [.ref q1, .ref q2, .int 0, .int 0, .int 0, .int 0, .int 0, .int 0])), (q1, .inl (a1, 13, .inl f_17))] := by rw [ef_17]; exact hD
      obtain ⟨x_18, ex_18⟩ : ∃ y : Int32, y = x2 + 1 := ⟨_, rfl⟩
      refine lv_iinc (v := x_18) (lv' := [(2, .int x_18), (4, .int r_8), (3, .int x_3), (1, .int x1), (0, .ref h0)]) hx hb dX10_init_97 hl (k := 2) rfl (by rw [ex_18]; rfl) (by decide) rfl (fun ls hl => ?_)
      have hx_18 := z_inc ex_18 (by omega)
      refine lv_goto (tgt := 29) hx hb dX10_init_100 (by decide) ?_
      exact ih x1 x_18 f_17 H locs ls hx1 (by omega) (zOwn_st hF hx_3 hw_10.2 hx1 hx2.1 hx_18 ef_17 (by rw [ex_16, ex_15, ex_14, ex_12, ex_11]; exact zOr_ne c_13)) hk hP hD hS (lv_sub hl [0, 3, 4] rfl)
    refine lv_iconst (v := 0) hx hb dX10_init_84 zci_0 ?_
    refine lv_goto (tgt := 95) hx hb dX10_init_85 (by decide) ?_
    refine lv_ior hx hb dX10_init_95 ?_
    refine lv_topi (fun x_19 ex_19 => ?_)
    refine va_iast hx hb hK hP hD hS 1 0 rfl rfl (by have ohx1 := id hx1; have ohx2 := id hx2; have oc_1 := zi_nle c_1; have kI6 : (6 : Int32).toInt = 6 := (by decide +kernel); have ohx_3 := id hx_3; have oc_7 := zi_nle c_7; have kI91 : (91 : Int32).toInt = 91 := (by decide +kernel); have oc_13 := zi_eq c_13; have kI32 : (32 : Int32).toInt = 32 := (by decide +kernel); exact vp_in_iff.mpr ⟨by omega, by omega⟩) dX10_init_96 (fun H locs hP hD hS => ?_)
    obtain ⟨f_20, ef_20⟩ : ∃ g : Nat → Int32, g = (upd f (x1 : Int32).toNatClampNeg x_19) := ⟨_, rfl⟩
    have hP : va_P (dC, dI) vwCl [(h0, .inr (10, [.ref q1, .ref q2, .int 0, .int 0, .int 0, .int 0, .int 0, .int 0])), (q1, .inl (a1, 13, .inl f_20))] H := by rw [ef_20]; exact hP
    have hD : va_D A [(h0, .inr (10, [.ref q1, .ref q2, .int 0, .int 0, .int 0, .int 0, .int 0, .int 0])), (q1, .inl (a1, 13, .inl f_20))] := by rw [ef_20]; exact hD
    obtain ⟨x_21, ex_21⟩ : ∃ y : Int32, y = x2 + 1 := ⟨_, rfl⟩
    refine lv_iinc (v := x_21) (lv' := [(2, .int x_21), (4, .int r_8), (3, .int x_3), (1, .int x1), (0, .ref h0)]) hx hb dX10_init_97 hl (k := 2) rfl (by rw [ex_21]; rfl) (by decide) rfl (fun ls hl => ?_)
    have hx_21 := z_inc ex_21 (by omega)
    refine lv_goto (tgt := 29) hx hb dX10_init_100 (by decide) ?_
    exact ih x1 x_21 f_20 H locs ls hx1 (by omega) (zOwn_st hF hx_3 hw_10.2 hx1 hx2.1 hx_21 ef_20 (by rw [ex_19, ex_12, ex_11]; exact zOr_eq c_13)) hk hP hD hS (lv_sub hl [0, 3, 4] rfl)

set_option maxHeartbeats 4000000 in
set_option maxRecDepth 100000 in
theorem words_out {p : Program} {l : Launch} {e : Env} {R : Room} {s : State} {m : MethodId} {args : Array Value} {below : List Frame} {meth : Method} {c : Code} {Q : State → Prop} {dC : Nat → ClassId} {dI : Nat → Nat → Nat} {A : Nat → Prop} {adK adV : Nat → Nat} (hx : p.tables.exec = Jvm.exec) (hb : c.code = cX10_init) (hml : c.maxLocals = 5) (hown : s.vm.findClass RX10 = some m.cls) (hts : ∀ w ∈ wsX10_init, w.before args s = true) (hA : ∀ q : Nat, s.heap.size ≤ q → A q) (hzf : zF adK adV A s s.heap) (hR : 6 ≤ R.frames ∧ 200 ≤ R.locals ∧ 2 ≤ R.cells ∧ 13 ≤ R.slots) (h0 q1 q2 a1 : Nat) (hK : va_K (dC, dI) vwCl [(a1, .int)] s) : ∀ (n : Nat) (x1 : Int32) (f : Nat → Int32) (H : Heap) (locs : List Loc) (ls : Array Slot), 0 ≤ x1.toInt ∧ x1.toInt + n = 13 → zOwnO x1 f → (∀ (f : Nat → Int32) (H : Heap) (locs : List Loc) (ls : Array Slot), (∀ w : Nat, w < 13 → f w = zOw w 6) → va_P (dC, dI) vwCl [(h0, .inr (10, [.ref q1, .ref q2, .int 0, .int 0, .int 0, .int 0, .int 0, .int 0])), (q1, .inl (a1, 13, .inl f))] H → va_D A [(h0, .inr (10, [.ref q1, .ref q2, .int 0, .int 0, .int 0, .int 0, .int 0, .int 0])), (q1, .inl (a1, 13, .inl f))] → va_S A s.heap H locs → lv_has ls 5 [(0, .ref h0)] → W p l e R s m args below meth c H locs 2 13 Q (F0 m 109 ls [])) → va_P (dC, dI) vwCl [(h0, .inr (10, [.ref q1, .ref q2, .int 0, .int 0, .int 0, .int 0, .int 0, .int 0])), (q1, .inl (a1, 13, .inl f))] H → va_D A [(h0, .inr (10, [.ref q1, .ref q2, .int 0, .int 0, .int 0, .int 0, .int 0, .int 0])), (q1, .inl (a1, 13, .inl f))] → va_S A s.heap H locs → lv_has ls 5 [(1, .int x1), (0, .ref h0)] → W p l e R s m args below meth c H locs 2 13 Q (F0 m 21 ls []) := by
  intro n
  induction n with
  | zero =>
    intro x1 f H locs ls hx1 hF hk hP hD hS hl
    refine lv_iload_n hx hb dX10_init_21 rfl (lv_at hl 0 rfl) ?_
    refine lv_bipush (v := 13) hx hb dX10_init_22 zcb_13 ?_
    refine lv_icmp_ge (tgt := 109) hx hb dX10_init_24 (by decide) (fun c_1 => ?_) (fun c_1 => by exfalso; have ohx1 := id hx1; have oc_1 := zi_nle c_1; have kI13 : (13 : Int32).toInt = 13 := (by decide +kernel); omega)
    exact hk f H locs ls (zOwnO_f (by omega) hF) hP hD hS (lv_sub hl [1] rfl)
  | succ n ih =>
    intro x1 f H locs ls hx1 hF hk hP hD hS hl
    refine lv_iload_n hx hb dX10_init_21 rfl (lv_at hl 0 rfl) ?_
    refine lv_bipush (v := 13) hx hb dX10_init_22 zcb_13 ?_
    refine lv_icmp_ge (tgt := 109) hx hb dX10_init_24 (by decide) (fun c_1 => by exfalso; have ohx1 := id hx1; have oc_1 := zi_le c_1; have kI13 : (13 : Int32).toInt = 13 := (by decide +kernel); omega) (fun c_1 => ?_)
    refine lv_iconst (v := 0) hx hb dX10_init_27 zci_0 ?_
    refine lv_istore_n (lv' := [(2, .int 0), (1, .int x1), (0, .ref h0)]) hx hb dX10_init_28 rfl hl (by decide) rfl (fun ls hl => ?_)
    exact words_in hx hb hml hown hts hA hzf hR h0 q1 q2 a1 hK 6 x1 0 f H locs ls (by omega) (by decide +kernel) (zOwnI_0 hF) (fun f H locs ls hF hP hD hS hl => by
      obtain ⟨x_1, ex_1⟩ : ∃ y : Int32, y = x1 + 1 := ⟨_, rfl⟩
      refine lv_iinc (v := x_1) (lv' := [(1, .int x_1), (0, .ref h0)]) hx hb dX10_init_103 hl (k := 0) rfl (by rw [ex_1]; rfl) (by decide) rfl (fun ls hl => ?_)
      have hx_1 := z_inc ex_1 (by omega)
      refine lv_goto (tgt := 21) hx hb dX10_init_106 (by decide) ?_
      exact ih x_1 f H locs ls (by omega) (zOwnO_n hF hx1.1 hx_1) hk hP hD hS (lv_sub hl [0, 1] rfl)) hP hD hS (lv_sub hl [0, 1, 2] rfl)

set_option maxHeartbeats 4000000 in
set_option maxRecDepth 100000 in
theorem zc_words (l : Launch) (dC : Nat → ClassId) (dI : Nat → Nat → Nat) (adK adV : Nat → Nat) (h0 : Nat) (sz : Nat) : Met l yX10_init wsX10_init ({ frames := 6, cells := 2, slots := 13, locals := 200 }) (va_Pc [.ref h0] (fun U => zF adK adV (va_A [(h0, .inr (10, [.null, .null, .int 0, .int 0, .int 0, .int 0, .int 0, .int 0]))] sz) U U.heap ∧ U.heap.size = sz ∧ va_P (dC, dI) vwCl [(h0, .inr (10, [.null, .null, .int 0, .int 0, .int 0, .int 0, .int 0, .int 0]))] U.heap ∧ va_K (dC, dI) vwCl [] U ∧ va_D (fun _ => True) [(h0, .inr (10, [.null, .null, .int 0, .int 0, .int 0, .int 0, .int 0, .int 0]))])) (va_Qv (fun (u : zU) => ∀ w : Nat, w < 13 → u.2 0 w = zOw w 6) (fun u t => va_P (dC, dI) vwCl [(h0, .inr (10, [.ref (u.1 0), .ref (u.1 1), .int 0, .int 0, .int 0, .int 0, .int 0, .int 0])), ((u.1 0), .inl ((u.1 2), 13, .inl (u.2 0)))] t.heap ∧ va_K (dC, dI) vwCl [((u.1 2), .int)] t ∧ va_D (va_A [(h0, .inr (10, [.null, .null, .int 0, .int 0, .int 0, .int 0, .int 0, .int 0]))] sz) [(h0, .inr (10, [.ref (u.1 0), .ref (u.1 1), .int 0, .int 0, .int 0, .int 0, .int 0, .int 0])), ((u.1 0), .inl ((u.1 2), 13, .inl (u.2 0)))]) (va_A [(h0, .inr (10, [.null, .null, .int 0, .int 0, .int 0, .int 0, .int 0, .int 0]))] sz)) 2 13 (va_A [(h0, .inr (10, [.null, .null, .int 0, .int 0, .int 0, .int 0, .int 0, .int 0]))] sz) := by
  refine Met.ofW (cc := cX10_init) (maxL := 5) (ret := none) (by decide +kernel) rfl ?_
  intro p e s m args below meth c s₁ B hml hv
  obtain ⟨rfl, hzf, hsz, hP, hK, hD0⟩ := hv
  have hx := B.exec
  have hb := B.bytes
  have hr := B.returns
  have hts := atoms_spec (ws := wsX10_init) B.pre
  have hown : s.vm.findClass RX10 = some m.cls := findClass_of_methodNamed B.named
  have hlocks := B.notSynchronized
  have hin : meth.name = "<init>" := (name_of_methodNamed B.named B.method).1
  subst hsz
  have hD := hD0.self (sz := s.heap.size)
  generalize hAe : va_A [(h0, .inr (10, [.null, .null, .int 0, .int 0, .int 0, .int 0, .int 0, .int 0]))] s.heap.size = A at hD hzf ⊢
  have hA : ∀ q : Nat, s.heap.size ≤ q → A q := fun q h => by rw [← hAe]; exact Or.inr h
  have hS : va_S A s.heap s.heap [] := va_S.rf
  have hP : va_P (dC, dI) vwCl [(h0, .inr (10, [.null, .null, .int 0, .int 0, .int 0, .int 0, .int 0, .int 0]))] s.heap := hP
  have hl := lv_entry ([.ref h0]) (n := 5) (Nat.le_of_ble_eq_true rfl)
  rw [lg_entry_eq]
  generalize (lg_sl ([.ref h0]) ++ List.replicate (5 - (lg_sl ([.ref h0])).length) Slot.unset).toArray = ls at hl ⊢
  have hl : lv_has ls 5 [(0, .ref h0)] := hl
  refine lv_aload_n hx hb dX10_init_0 rfl (lv_at hl 0 rfl) ?_
  refine W.objInit hx hb hown (hts (.methodLink RX10 3 objectInit) zw_X10_init_9) (hts (.instanceMethod objectInit) zw_X10_init_10) (hts (.code objectInit ⟨#[0xb1]⟩ 1 none) zw_X10_init_11) rfl (by rw [hml]; exact hl.1) rfl dX10_init_1 (Nat.le_of_ble_eq_true rfl) (Nat.le_of_ble_eq_true rfl) ?_
  refine W.eq (g2 := F0 m 4 ls []) rfl ?_
  refine lv_aload_n hx hb dX10_init_4 rfl (lv_at hl 0 rfl) ?_
  refine lv_bipush (v := 13) hx hb dX10_init_5 zcb_13 ?_
  refine va_newa (atype := .int) (ty := .int) (N' := 13) (a0 := (13, .inl (fun _ => 0))) hx hb (hts (.arrayClass .int) zw_X10_init_12) rfl hK hP hD hS hA (fun _ => rfl) (by decide +kernel) (by decide +kernel) (Nat.le_of_ble_eq_true rfl) (Nat.le_of_ble_eq_true rfl) (Nat.le_of_ble_eq_true rfl) dX10_init_7 (fun q_1 a_2 H hK hP hD hS => ?_)
  have hP : va_P (dC, dI) vwCl [(h0, .inr (10, [.null, .null, .int 0, .int 0, .int 0, .int 0, .int 0, .int 0])), (q_1, .inl (a_2, 13, .inl (fun _ => 0)))] H := hP
  have hD : va_D A [(h0, .inr (10, [.null, .null, .int 0, .int 0, .int 0, .int 0, .int 0, .int 0])), (q_1, .inl (a_2, 13, .inl (fun _ => 0)))] := hD
  have hK : va_K (dC, dI) vwCl [(a_2, .int)] s := hK
  refine W.widen (k := 1) (n := 13) (Nat.le_of_ble_eq_true rfl) (Nat.le_of_ble_eq_true rfl) ?_
  refine va_putF (D := (dC, dI)) (ci := 10) (v := .ref q_1) (ty := .array .int) (C := RX10) (T := TX10) (N := 8) hx hb hts zn_X10_init_X10 tyX10 tyX10_ok nmX10 hown hK hP hD hS 0 rfl rfl 0 (by decide) (hts (.fieldLink RX10 11 "ShortEnough$Words" "ownNames" "[I") zw_X10_init_8) (fun _ h9 => h9) rfl hin rfl (by decide +kernel) rfl rfl (Nat.le_of_ble_eq_true rfl) dX10_init_9 (fun H locs hP hD hS => ?_)
  have hP : va_P (dC, dI) vwCl [(h0, .inr (10, [.ref q_1, .null, .int 0, .int 0, .int 0, .int 0, .int 0, .int 0])), (q_1, .inl (a_2, 13, .inl (fun _ => 0)))] H := hP
  have hD : va_D A [(h0, .inr (10, [.ref q_1, .null, .int 0, .int 0, .int 0, .int 0, .int 0, .int 0])), (q_1, .inl (a_2, 13, .inl (fun _ => 0)))] := hD
  refine lv_aload_n hx hb dX10_init_12 rfl (lv_at hl 0 rfl) ?_
  refine lv_iconst (v := 0) hx hb dX10_init_13 zci_0 ?_
  refine va_newa (atype := .byte) (ty := .byte) (N' := 0) (a0 := (0, .inl (fun _ => 0))) hx hb (hts (.arrayClass .byte) zw_X10_init_13) rfl hK hP hD hS hA (fun _ => rfl) (by decide +kernel) (by decide +kernel) (Nat.le_of_ble_eq_true rfl) (Nat.le_of_ble_eq_true rfl) (Nat.le_of_ble_eq_true rfl) dX10_init_14 (fun q_3 a_4 H hK hP hD hS => ?_)
  have hP : va_P (dC, dI) vwCl [(h0, .inr (10, [.ref q_1, .null, .int 0, .int 0, .int 0, .int 0, .int 0, .int 0])), (q_1, .inl (a_2, 13, .inl (fun _ => 0))), (q_3, .inl (a_4, 0, .inl (fun _ => 0)))] H := hP
  have hD : va_D A [(h0, .inr (10, [.ref q_1, .null, .int 0, .int 0, .int 0, .int 0, .int 0, .int 0])), (q_1, .inl (a_2, 13, .inl (fun _ => 0))), (q_3, .inl (a_4, 0, .inl (fun _ => 0)))] := hD
  have hK : va_K (dC, dI) vwCl [(a_2, .int), (a_4, .byte)] s := hK
  refine W.widen (k := 2) (n := 13) (Nat.le_of_ble_eq_true rfl) (Nat.le_of_ble_eq_true rfl) ?_
  refine va_put (D := (dC, dI)) (ci := 10) (v := .ref q_3) (ty := .array .byte) (C := RX10) (T := TX10) (N := 8) hx hb hts zn_X10_init_X10 tyX10 tyX10_ok nmX10 hown hK hP hD hS 0 rfl rfl 1 (by decide) (hts (.fieldLink RX10 15 "ShortEnough$Words" "text" "[B") zw_X10_init_14) (fun _ h9 => h9) rfl (by decide +kernel) rfl rfl (Nat.le_of_ble_eq_true rfl) dX10_init_16 (fun H locs hP hD hS => ?_)
  have hP : va_P (dC, dI) vwCl [(h0, .inr (10, [.ref q_1, .ref q_3, .int 0, .int 0, .int 0, .int 0, .int 0, .int 0])), (q_1, .inl (a_2, 13, .inl (fun _ => 0))), (q_3, .inl (a_4, 0, .inl (fun _ => 0)))] H := hP
  have hD : va_D A [(h0, .inr (10, [.ref q_1, .ref q_3, .int 0, .int 0, .int 0, .int 0, .int 0, .int 0])), (q_1, .inl (a_2, 13, .inl (fun _ => 0))), (q_3, .inl (a_4, 0, .inl (fun _ => 0)))] := hD
  refine lv_iconst (v := 0) hx hb dX10_init_19 zci_0 ?_
  refine lv_istore_n (lv' := [(1, .int 0), (0, .ref h0)]) hx hb dX10_init_20 rfl hl (by decide) rfl (fun ls hl => ?_)
  refine words_out hx hb hml hown hts hA hzf ⟨Nat.le_of_ble_eq_true rfl, Nat.le_of_ble_eq_true rfl, Nat.le_of_ble_eq_true rfl, Nat.le_of_ble_eq_true rfl⟩ h0 q_1 q_3 a_2 (hK.sub [0] rfl) 13 0 (fun _ => 0) H locs ls (by decide +kernel) zOwnO_0 (fun f H locs ls hF9 hP hD hS hl => ?_) (hP.sub [0, 1] rfl) (hD.sub [0, 1] (by decide) rfl) hS (lv_sub hl [0, 1] rfl)
  have hP9 := hP.sub (ws' := [(h0, .inr (10, [.ref q_1, .ref q_3, .int 0, .int 0, .int 0, .int 0, .int 0, .int 0])), (q_1, .inl (a_2, 13, .inl f))]) [0, 1] rfl
  have hD9 := hD.sub (ws' := [(h0, .inr (10, [.ref q_1, .ref q_3, .int 0, .int 0, .int 0, .int 0, .int 0, .int 0])), (q_1, .inl (a_2, 13, .inl f))]) [0, 1] (by decide) rfl
  have hK9 := hK.sub (tys' := [(a_2, .int)]) [0] rfl
  exact W.vret hx hb hr (fun t ht hW => ⟨⟨((fun k => ([q_1, q_3, a_2] : List Nat).getD k 0), (fun _ => f)), rfl, hF9, by rw [ht]; exact hP9, va_K.moved hW.alike hK9, hD9⟩, hS.F ht⟩) hS.2.2 dX10_init_109
set_option maxHeartbeats 4000000 in
set_option maxRecDepth 100000 in
theorem zc8_X5_init (l : Launch) (dC : Nat → ClassId) (dI : Nat → Nat → Nat) (adK adV : Nat → Nat) (h0 : Nat) (sz : Nat) : Met l yX5_init wsX5_init ({ frames := 7, cells := 3, slots := 21, locals := 224 }) (va_Pc [.ref h0] (fun U => zF adK adV (va_A [(h0, .inr (5, [.null, .int 0, .int 0, .int 0]))] sz) U U.heap ∧ U.heap.size = sz ∧ va_P (dC, dI) vwCl [(h0, .inr (5, [.null, .int 0, .int 0, .int 0]))] U.heap ∧ va_K (dC, dI) vwCl [] U ∧ va_D (fun _ => True) [(h0, .inr (5, [.null, .int 0, .int 0, .int 0]))])) (va_Qv (fun (u : zU) => ∀ w : Nat, w < 13 → u.2 0 w = zOw w 6) (fun u t => va_P (dC, dI) vwCl [zV5 h0 (u.1 0) 0 0 (-1), zV10 (u.1 0) (u.1 1) (u.1 2) 0 0 0 0 0 0, zVi (u.1 1) (u.1 3) 13 (u.2 0)] t.heap ∧ va_K (dC, dI) vwCl [((u.1 3), .int)] t ∧ va_D (va_A [(h0, .inr (5, [.null, .int 0, .int 0, .int 0]))] sz) [zV5 h0 (u.1 0) 0 0 (-1), zV10 (u.1 0) (u.1 1) (u.1 2) 0 0 0 0 0 0, zVi (u.1 1) (u.1 3) 13 (u.2 0)]) (va_A [(h0, .inr (5, [.null, .int 0, .int 0, .int 0]))] sz)) 3 21 (va_A [(h0, .inr (5, [.null, .int 0, .int 0, .int 0]))] sz) := by
  refine Met.ofW (cc := cX5_init) (maxL := 1) (ret := none) (by decide +kernel) rfl ?_
  intro p e s m args below meth c s₁ B hml hv
  obtain ⟨rfl, hzf, hsz, hP, hK, hD0⟩ := hv
  have hx := B.exec
  have hb := B.bytes
  have hr := B.returns
  have hts := atoms_spec (ws := wsX5_init) B.pre
  have hown : s.vm.findClass RX5 = some m.cls := (findClass_of_methodNamed B.named :)
  have hlocks := B.notSynchronized
  have hin : meth.name = "<init>" := (name_of_methodNamed B.named B.method).1
  subst hsz
  replace hD := hD0.self (sz := s.heap.size)
  generalize hAe : va_A [(h0, .inr (5, [.null, .int 0, .int 0, .int 0]))] s.heap.size = A at hD hzf ⊢
  have hA : ∀ q : Nat, s.heap.size ≤ q → A q := fun q h => by rw [← hAe]; exact Or.inr h
  have hS : va_S A s.heap s.heap [] := va_S.rf
  replace hP : va_P (dC, dI) vwCl [(h0, .inr (5, [.null, .int 0, .int 0, .int 0]))] s.heap := hP
  have hl := lv_entry ([.ref h0]) (n := 1) (Nat.le_of_ble_eq_true rfl)
  rw [lg_entry_eq]
  generalize (lg_sl ([.ref h0]) ++ List.replicate (1 - (lg_sl ([.ref h0])).length) Slot.unset).toArray = ls at hl ⊢
  have hl : lv_has ls 1 [(0, .ref h0)] := hl
  refine lv_aload_n hx hb dX5_init_0 rfl (lv_at hl 0 rfl) ?_
  refine W.objInit hx hb hown (hts (.methodLink RX5 3 objectInit) zw_X5_init_27) (hts (.instanceMethod objectInit) zw_X5_init_28) (hts (.code objectInit ⟨#[0xb1]⟩ 1 none) zw_X5_init_29) rfl (by rw [hml]; exact hl.1) rfl dX5_init_1 (Nat.le_of_ble_eq_true rfl) (Nat.le_of_ble_eq_true rfl) ?_
  refine W.eq (g2 := F0 m 4 ls []) rfl ?_
  refine lv_aload_n hx hb dX5_init_4 rfl (lv_at hl 0 rfl) ?_
  refine va_new (ci := 10) (fs := [.null, .null, .int 0, .int 0, .int 0, .int 0, .int 0, .int 0]) (C := RX10) (T := TX10) (N := 8) hx hb hts zn_X5_init_X10 tyX10 tyX10_ok hown (hts (.classLink RX5 9 RX10) zw_X5_init_31) (hts (.instantiable RX10 8) zw_X5_init_32) (hts (.initialized RX10) zw_X5_init_33) hK hP hD hS hA rfl zd_X10 (Nat.le_of_ble_eq_true rfl) (Nat.le_of_ble_eq_true rfl) dX5_init_5 (fun q_1 H hP hD hS => ?_)
  replace hP : va_P (dC, dI) vwCl [(h0, .inr (5, [.null, .int 0, .int 0, .int 0])), (q_1, .inr (10, [.null, .null, .int 0, .int 0, .int 0, .int 0, .int 0, .int 0]))] H := hP
  replace hD := zDW hD hP rfl
  refine W.widen (k := 1) (n := 8) (Nat.le_of_ble_eq_true rfl) (Nat.le_of_ble_eq_true rfl) ?_
  refine lv_dup hx hb dX5_init_8 rfl ?_
  replace hPc := hP.sub (ws' := [(q_1, .inr (10, [.null, .null, .int 0, .int 0, .int 0, .int 0, .int 0, .int 0]))]) [1] rfl
  replace hDc := hD.sub (ws' := [(q_1, .inr (10, [.null, .null, .int 0, .int 0, .int 0, .int 0, .int 0, .int 0]))]) [1] (by decide) rfl
  replace hKc := hK.sub (tys' := []) [] rfl
  replace hFc := va_free (wc := [(q_1, .inr (10, [.null, .null, .int 0, .int 0, .int 0, .int 0, .int 0, .int 0]))]) hD hS hA [1] rfl
  refine va_callv (va_runI (As := []) (rest := [.ref q_1, .ref h0]) ⟨hx, hb, hml, hown, hts⟩ (zc_words l dC dI adK adV q_1 H.size) (cwI 0 hts gX5_init_X10_init rfl rfl rfl (hts (.initialized RX10) zw_X5_init_33) (hts (.methodLink RX5 11 yX10_init) zw_X5_init_34) (hts (.instanceMethod yX10_init) zw_X5_init_35) rfl (by decide +kernel) ⟨Nat.le_of_ble_eq_true rfl, Nat.le_of_ble_eq_true rfl⟩) ⟨fun a U g mk q => by obtain ⟨q0, n0, q1, qP, qK, qD⟩ := q; exact ⟨q0, zF_blind n0, q1, qP, va_K.moved (u := U) (U := U.calling g mk a) (Vm.Alike.refl U.vm) qK, qD⟩, fun U hU hW => ⟨rfl, zF_to hzf hS hFc hW hU, by rw [hU], by rw [hU]; exact hPc, va_K.moved hW.alike hKc, hDc.weaken (fun _ _ _ _ => trivial)⟩⟩ rfl rfl hl.1 rfl (lv_room (Nat.le_of_ble_eq_true rfl)) dX5_init_9 ⟨Nat.le_of_ble_eq_true rfl, Nat.le_of_ble_eq_true rfl⟩) hS (fun q _ h => hFc q h) hFc (fun u_3 t H1 locs ht hvm hw_4 hB hz1 hk1 hS => ?_)
  obtain ⟨hP1, hK1, hD1⟩ := hB
  rw [ht] at hP1
  replace hK1 := va_K.moved hvm.symm hK1
  obtain ⟨hP, hD⟩ := va_join (wr := [(h0, .inr (5, [.null, .int 0, .int 0, .int 0]))]) (w1 := [zV10 q_1 (u_3.1 0) (u_3.1 1) 0 0 0 0 0 0, zVi (u_3.1 0) (u_3.1 2) 13 (u_3.2 0)]) hP hD [1] [0] rfl rfl (by decide) (by decide) hk1 hFc hP1 hD1
  replace hK := hK.app hK1
  generalize H1 = H at hP hS ⊢
  replace hP : va_P (dC, dI) vwCl [(h0, .inr (5, [.null, .int 0, .int 0, .int 0])), zV10 q_1 (u_3.1 0) (u_3.1 1) 0 0 0 0 0 0, zVi (u_3.1 0) (u_3.1 2) 13 (u_3.2 0)] H := hP
  replace hD := zDW hD hP rfl
  replace hK : va_K (dC, dI) vwCl [((u_3.1 2), .int)] s := hK
  refine W.widen (k := 3) (n := 21) (Nat.le_of_ble_eq_true rfl) (Nat.le_of_ble_eq_true rfl) ?_
  refine va_putF (D := (dC, dI)) (ci := 5) (v := .ref q_1) (ty := .object "ShortEnough$Words") (C := RX5) (T := TX5) (N := 4) hx hb hts zn_X5_init_X5 tyX5 tyX5_ok nmX5 hown hK hP hD hS 0 rfl rfl 0 (by decide) (hts (.fieldLink RX5 12 "ShortEnough$Parser" "words" "LShortEnough$Words;") zw_X5_init_37) (fun _ h9 => h9) rfl hin rfl (by decide +kernel) rfl rfl (Nat.le_of_ble_eq_true rfl) dX5_init_12 ?_
  clear hP hD hS
  intro H locs hP hD hS
  replace hP : va_P (dC, dI) vwCl [zV5 h0 q_1 0 0 0, zV10 q_1 (u_3.1 0) (u_3.1 1) 0 0 0 0 0 0, zVi (u_3.1 0) (u_3.1 2) 13 (u_3.2 0)] H := hP
  replace hD := zDW hD hP rfl
  refine lv_aload_n hx hb dX5_init_15 rfl (lv_at hl 0 rfl) ?_
  refine lv_iconst (v := (-1)) hx hb dX5_init_16 zci_m1 ?_
  refine va_put (D := (dC, dI)) (ci := 5) (v := .int (-1)) (ty := .int) (C := RX5) (T := TX5) (N := 4) hx hb hts zn_X5_init_X5 tyX5 tyX5_ok nmX5 hown hK hP hD hS 0 rfl rfl 3 (by decide) (hts (.fieldLink RX5 18 "ShortEnough$Parser" "faultPlace" "I") zw_X5_init_38) (fun _ h9 => h9) rfl (by decide +kernel) rfl rfl (Nat.le_of_ble_eq_true rfl) dX5_init_17 ?_
  clear hP hD hS
  intro H locs hP hD hS
  replace hP : va_P (dC, dI) vwCl [zV5 h0 q_1 0 0 (-1), zV10 q_1 (u_3.1 0) (u_3.1 1) 0 0 0 0 0 0, zVi (u_3.1 0) (u_3.1 2) 13 (u_3.2 0)] H := hP
  replace hD := zDW hD hP rfl
  have hP9 := hP.sub (ws' := [zV5 h0 q_1 0 0 (-1), zV10 q_1 (u_3.1 0) (u_3.1 1) 0 0 0 0 0 0, zVi (u_3.1 0) (u_3.1 2) 13 (u_3.2 0)]) [0, 1, 2] rfl
  have hD9 := hD.sub (ws' := [zV5 h0 q_1 0 0 (-1), zV10 q_1 (u_3.1 0) (u_3.1 1) 0 0 0 0 0 0, zVi (u_3.1 0) (u_3.1 2) 13 (u_3.2 0)]) [0, 1, 2] (by decide) rfl
  have hK9 := hK.sub (tys' := [((u_3.1 2), .int)]) [0] rfl
  refine W.widen (k := 3) (n := 21) (Nat.le_of_ble_eq_true rfl) (Nat.le_of_ble_eq_true rfl) ?_
  exact W.vret hx hb hr (fun t ht hW => ⟨⟨((fun k => ([q_1, (u_3.1 0), (u_3.1 1), (u_3.1 2)] : List Nat).getD k 0), (fun k => ([(u_3.2 0)] : List (Nat → Int32)).getD k (fun _ => 0))), rfl, hw_4, by rw [ht]; exact hP9, va_K.moved hW.alike hK9, hD9⟩, hS.F ht⟩) hS.2.2 dX5_init_20
set_option maxHeartbeats 4000000 in
set_option maxRecDepth 100000 in
theorem zc9_X4_init (l : Launch) (dC : Nat → ClassId) (dI : Nat → Nat → Nat) (h0 : Nat) (sz : Nat) : Met l yX4_init wsX4_init ({ frames := 1, cells := 8, slots := 140, locals := 20 }) (va_Pc [.ref h0] (fun U => U.heap.size = sz ∧ va_P (dC, dI) vwCl [(h0, .inr (4, [.int 0, .int 0, .null, .null, .null, .null, .null, .null, .null, .null]))] U.heap ∧ va_K (dC, dI) vwCl [] U ∧ va_D (fun _ => True) [(h0, .inr (4, [.int 0, .int 0, .null, .null, .null, .null, .null, .null, .null, .null]))])) (va_Qv (fun (u : zU) => True) (fun u t => va_P (dC, dI) vwCl [zV4 h0 0 0 (u.1 0) (u.1 1) (u.1 2) (u.1 3) (u.1 4) (u.1 5) (u.1 6) (u.1 7), zVi (u.1 0) (u.1 8) 14 (fun _ => 0), zVi (u.1 1) (u.1 9) 14 (fun _ => 0), zVi (u.1 2) (u.1 10) 14 (fun _ => 0), zVi (u.1 3) (u.1 11) 14 (fun _ => 0), zVi (u.1 4) (u.1 12) 14 (fun _ => 0), zVi (u.1 5) (u.1 13) 14 (fun _ => 0), zVi (u.1 6) (u.1 14) 28 (fun _ => 0), zVi (u.1 7) (u.1 15) 28 (fun _ => 0)] t.heap ∧ va_K (dC, dI) vwCl [((u.1 8), .int), ((u.1 9), .int), ((u.1 10), .int), ((u.1 11), .int), ((u.1 12), .int), ((u.1 13), .int), ((u.1 14), .int), ((u.1 15), .int)] t ∧ va_D (va_A [(h0, .inr (4, [.int 0, .int 0, .null, .null, .null, .null, .null, .null, .null, .null]))] sz) [zV4 h0 0 0 (u.1 0) (u.1 1) (u.1 2) (u.1 3) (u.1 4) (u.1 5) (u.1 6) (u.1 7), zVi (u.1 0) (u.1 8) 14 (fun _ => 0), zVi (u.1 1) (u.1 9) 14 (fun _ => 0), zVi (u.1 2) (u.1 10) 14 (fun _ => 0), zVi (u.1 3) (u.1 11) 14 (fun _ => 0), zVi (u.1 4) (u.1 12) 14 (fun _ => 0), zVi (u.1 5) (u.1 13) 14 (fun _ => 0), zVi (u.1 6) (u.1 14) 28 (fun _ => 0), zVi (u.1 7) (u.1 15) 28 (fun _ => 0)]) (va_A [(h0, .inr (4, [.int 0, .int 0, .null, .null, .null, .null, .null, .null, .null, .null]))] sz)) 8 140 (va_A [(h0, .inr (4, [.int 0, .int 0, .null, .null, .null, .null, .null, .null, .null, .null]))] sz) := by
  refine Met.ofW (cc := cX4_init) (maxL := 1) (ret := none) (by decide +kernel) rfl ?_
  intro p e s m args below meth c s₁ B hml hv
  obtain ⟨rfl, hsz, hP, hK, hD0⟩ := hv
  have hx := B.exec
  have hb := B.bytes
  have hr := B.returns
  have hts := atoms_spec (ws := wsX4_init) B.pre
  have hown : s.vm.findClass RX4 = some m.cls := (findClass_of_methodNamed B.named :)
  have hlocks := B.notSynchronized
  have hin : meth.name = "<init>" := (name_of_methodNamed B.named B.method).1
  subst hsz
  replace hD := hD0.self (sz := s.heap.size)
  generalize hAe : va_A [(h0, .inr (4, [.int 0, .int 0, .null, .null, .null, .null, .null, .null, .null, .null]))] s.heap.size = A at hD ⊢
  have hA : ∀ q : Nat, s.heap.size ≤ q → A q := fun q h => by rw [← hAe]; exact Or.inr h
  have hS : va_S A s.heap s.heap [] := va_S.rf
  replace hP : va_P (dC, dI) vwCl [(h0, .inr (4, [.int 0, .int 0, .null, .null, .null, .null, .null, .null, .null, .null]))] s.heap := hP
  have hl := lv_entry ([.ref h0]) (n := 1) (Nat.le_of_ble_eq_true rfl)
  rw [lg_entry_eq]
  generalize (lg_sl ([.ref h0]) ++ List.replicate (1 - (lg_sl ([.ref h0])).length) Slot.unset).toArray = ls at hl ⊢
  have hl : lv_has ls 1 [(0, .ref h0)] := hl
  refine lv_aload_n hx hb dX4_init_0 rfl (lv_at hl 0 rfl) ?_
  refine W.objInit hx hb hown (hts (.methodLink RX4 3 objectInit) zw_X4_init_58) (hts (.instanceMethod objectInit) zw_X4_init_59) (hts (.code objectInit ⟨#[0xb1]⟩ 1 none) zw_X4_init_60) rfl (by rw [hml]; exact hl.1) rfl dX4_init_1 (Nat.le_of_ble_eq_true rfl) (Nat.le_of_ble_eq_true rfl) ?_
  refine W.eq (g2 := F0 m 4 ls []) rfl ?_
  refine lv_aload_n hx hb dX4_init_4 rfl (lv_at hl 0 rfl) ?_
  refine lv_bipush (v := 14) hx hb dX4_init_5 zcb_14 ?_
  refine va_newa (atype := .int) (ty := .int) (N' := 14) (a0 := (14, .inl (fun _ => 0))) hx hb (hts (.arrayClass .int) zw_X4_init_61) rfl hK hP hD hS hA (fun _ => rfl) (by decide +kernel) (by decide +kernel) (Nat.le_of_ble_eq_true rfl) (Nat.le_of_ble_eq_true rfl) (Nat.le_of_ble_eq_true rfl) dX4_init_7 (fun q_1 a_2 H hK hP hD hS => ?_)
  replace hP : va_P (dC, dI) vwCl [(h0, .inr (4, [.int 0, .int 0, .null, .null, .null, .null, .null, .null, .null, .null])), zVi q_1 a_2 14 (fun _ => 0)] H := hP
  replace hD := zDW hD hP rfl
  replace hK : va_K (dC, dI) vwCl [(a_2, .int)] s := hK
  refine W.widen (k := 1) (n := 14) (Nat.le_of_ble_eq_true rfl) (Nat.le_of_ble_eq_true rfl) ?_
  refine va_putF (D := (dC, dI)) (ci := 4) (v := .ref q_1) (ty := .array .int) (C := RX4) (T := TX4) (N := 10) hx hb hts zn_X4_init_X4 tyX4 tyX4_ok nmX4 hown hK hP hD hS 0 rfl rfl 2 (by decide) (hts (.fieldLink RX4 9 "ShortEnough$Numbers" "name" "[I") zw_X4_init_63) (fun _ h9 => h9) rfl hin rfl (by decide +kernel) rfl rfl (Nat.le_of_ble_eq_true rfl) dX4_init_9 ?_
  clear hP hD hS
  intro H locs hP hD hS
  replace hP : va_P (dC, dI) vwCl [(h0, .inr (4, [.int 0, .int 0, .ref q_1, .null, .null, .null, .null, .null, .null, .null])), zVi q_1 a_2 14 (fun _ => 0)] H := hP
  replace hD := zDW hD hP rfl
  refine lv_aload_n hx hb dX4_init_12 rfl (lv_at hl 0 rfl) ?_
  refine lv_bipush (v := 14) hx hb dX4_init_13 zcb_14 ?_
  refine va_newa (atype := .int) (ty := .int) (N' := 14) (a0 := (14, .inl (fun _ => 0))) hx hb (hts (.arrayClass .int) zw_X4_init_61) rfl hK hP hD hS hA (fun _ => rfl) (by decide +kernel) (by decide +kernel) (Nat.le_of_ble_eq_true rfl) (Nat.le_of_ble_eq_true rfl) (Nat.le_of_ble_eq_true rfl) dX4_init_15 (fun q_3 a_4 H hK hP hD hS => ?_)
  replace hP : va_P (dC, dI) vwCl [(h0, .inr (4, [.int 0, .int 0, .ref q_1, .null, .null, .null, .null, .null, .null, .null])), zVi q_1 a_2 14 (fun _ => 0), zVi q_3 a_4 14 (fun _ => 0)] H := hP
  replace hD := zDW hD hP rfl
  replace hK : va_K (dC, dI) vwCl [(a_2, .int), (a_4, .int)] s := hK
  refine W.widen (k := 2) (n := 28) (Nat.le_of_ble_eq_true rfl) (Nat.le_of_ble_eq_true rfl) ?_
  refine va_putF (D := (dC, dI)) (ci := 4) (v := .ref q_3) (ty := .array .int) (C := RX4) (T := TX4) (N := 10) hx hb hts zn_X4_init_X4 tyX4 tyX4_ok nmX4 hown hK hP hD hS 0 rfl rfl 3 (by decide) (hts (.fieldLink RX4 15 "ShortEnough$Numbers" "op" "[I") zw_X4_init_64) (fun _ h9 => h9) rfl hin rfl (by decide +kernel) rfl rfl (Nat.le_of_ble_eq_true rfl) dX4_init_17 ?_
  clear hP hD hS
  intro H locs hP hD hS
  replace hP : va_P (dC, dI) vwCl [(h0, .inr (4, [.int 0, .int 0, .ref q_1, .ref q_3, .null, .null, .null, .null, .null, .null])), zVi q_1 a_2 14 (fun _ => 0), zVi q_3 a_4 14 (fun _ => 0)] H := hP
  replace hD := zDW hD hP rfl
  refine lv_aload_n hx hb dX4_init_20 rfl (lv_at hl 0 rfl) ?_
  refine lv_bipush (v := 14) hx hb dX4_init_21 zcb_14 ?_
  refine va_newa (atype := .int) (ty := .int) (N' := 14) (a0 := (14, .inl (fun _ => 0))) hx hb (hts (.arrayClass .int) zw_X4_init_61) rfl hK hP hD hS hA (fun _ => rfl) (by decide +kernel) (by decide +kernel) (Nat.le_of_ble_eq_true rfl) (Nat.le_of_ble_eq_true rfl) (Nat.le_of_ble_eq_true rfl) dX4_init_23 (fun q_5 a_6 H hK hP hD hS => ?_)
  replace hP : va_P (dC, dI) vwCl [(h0, .inr (4, [.int 0, .int 0, .ref q_1, .ref q_3, .null, .null, .null, .null, .null, .null])), zVi q_1 a_2 14 (fun _ => 0), zVi q_3 a_4 14 (fun _ => 0), zVi q_5 a_6 14 (fun _ => 0)] H := hP
  replace hD := zDW hD hP rfl
  replace hK : va_K (dC, dI) vwCl [(a_2, .int), (a_4, .int), (a_6, .int)] s := hK
  refine W.widen (k := 3) (n := 42) (Nat.le_of_ble_eq_true rfl) (Nat.le_of_ble_eq_true rfl) ?_
  refine va_putF (D := (dC, dI)) (ci := 4) (v := .ref q_5) (ty := .array .int) (C := RX4) (T := TX4) (N := 10) hx hb hts zn_X4_init_X4 tyX4 tyX4_ok nmX4 hown hK hP hD hS 0 rfl rfl 4 (by decide) (hts (.fieldLink RX4 18 "ShortEnough$Numbers" "fixedAs" "[I") zw_X4_init_65) (fun _ h9 => h9) rfl hin rfl (by decide +kernel) rfl rfl (Nat.le_of_ble_eq_true rfl) dX4_init_25 ?_
  clear hP hD hS
  intro H locs hP hD hS
  replace hP : va_P (dC, dI) vwCl [(h0, .inr (4, [.int 0, .int 0, .ref q_1, .ref q_3, .ref q_5, .null, .null, .null, .null, .null])), zVi q_1 a_2 14 (fun _ => 0), zVi q_3 a_4 14 (fun _ => 0), zVi q_5 a_6 14 (fun _ => 0)] H := hP
  replace hD := zDW hD hP rfl
  refine lv_aload_n hx hb dX4_init_28 rfl (lv_at hl 0 rfl) ?_
  refine lv_bipush (v := 14) hx hb dX4_init_29 zcb_14 ?_
  refine va_newa (atype := .int) (ty := .int) (N' := 14) (a0 := (14, .inl (fun _ => 0))) hx hb (hts (.arrayClass .int) zw_X4_init_61) rfl hK hP hD hS hA (fun _ => rfl) (by decide +kernel) (by decide +kernel) (Nat.le_of_ble_eq_true rfl) (Nat.le_of_ble_eq_true rfl) (Nat.le_of_ble_eq_true rfl) dX4_init_31 (fun q_7 a_8 H hK hP hD hS => ?_)
  replace hP : va_P (dC, dI) vwCl [(h0, .inr (4, [.int 0, .int 0, .ref q_1, .ref q_3, .ref q_5, .null, .null, .null, .null, .null])), zVi q_1 a_2 14 (fun _ => 0), zVi q_3 a_4 14 (fun _ => 0), zVi q_5 a_6 14 (fun _ => 0), zVi q_7 a_8 14 (fun _ => 0)] H := hP
  replace hD := zDW hD hP rfl
  replace hK : va_K (dC, dI) vwCl [(a_2, .int), (a_4, .int), (a_6, .int), (a_8, .int)] s := hK
  refine W.widen (k := 4) (n := 56) (Nat.le_of_ble_eq_true rfl) (Nat.le_of_ble_eq_true rfl) ?_
  refine va_putF (D := (dC, dI)) (ci := 4) (v := .ref q_7) (ty := .array .int) (C := RX4) (T := TX4) (N := 10) hx hb hts zn_X4_init_X4 tyX4 tyX4_ok nmX4 hown hK hP hD hS 0 rfl rfl 5 (by decide) (hts (.fieldLink RX4 21 "ShortEnough$Numbers" "allowed" "[I") zw_X4_init_66) (fun _ h9 => h9) rfl hin rfl (by decide +kernel) rfl rfl (Nat.le_of_ble_eq_true rfl) dX4_init_33 ?_
  clear hP hD hS
  intro H locs hP hD hS
  replace hP : va_P (dC, dI) vwCl [(h0, .inr (4, [.int 0, .int 0, .ref q_1, .ref q_3, .ref q_5, .ref q_7, .null, .null, .null, .null])), zVi q_1 a_2 14 (fun _ => 0), zVi q_3 a_4 14 (fun _ => 0), zVi q_5 a_6 14 (fun _ => 0), zVi q_7 a_8 14 (fun _ => 0)] H := hP
  replace hD := zDW hD hP rfl
  refine lv_aload_n hx hb dX4_init_36 rfl (lv_at hl 0 rfl) ?_
  refine lv_bipush (v := 14) hx hb dX4_init_37 zcb_14 ?_
  refine va_newa (atype := .int) (ty := .int) (N' := 14) (a0 := (14, .inl (fun _ => 0))) hx hb (hts (.arrayClass .int) zw_X4_init_61) rfl hK hP hD hS hA (fun _ => rfl) (by decide +kernel) (by decide +kernel) (Nat.le_of_ble_eq_true rfl) (Nat.le_of_ble_eq_true rfl) (Nat.le_of_ble_eq_true rfl) dX4_init_39 (fun q_9 a_10 H hK hP hD hS => ?_)
  replace hP : va_P (dC, dI) vwCl [(h0, .inr (4, [.int 0, .int 0, .ref q_1, .ref q_3, .ref q_5, .ref q_7, .null, .null, .null, .null])), zVi q_1 a_2 14 (fun _ => 0), zVi q_3 a_4 14 (fun _ => 0), zVi q_5 a_6 14 (fun _ => 0), zVi q_7 a_8 14 (fun _ => 0), zVi q_9 a_10 14 (fun _ => 0)] H := hP
  replace hD := zDW hD hP rfl
  replace hK : va_K (dC, dI) vwCl [(a_2, .int), (a_4, .int), (a_6, .int), (a_8, .int), (a_10, .int)] s := hK
  refine W.widen (k := 5) (n := 70) (Nat.le_of_ble_eq_true rfl) (Nat.le_of_ble_eq_true rfl) ?_
  refine va_putF (D := (dC, dI)) (ci := 4) (v := .ref q_9) (ty := .array .int) (C := RX4) (T := TX4) (N := 10) hx hb hts zn_X4_init_X4 tyX4 tyX4_ok nmX4 hown hK hP hD hS 0 rfl rfl 6 (by decide) (hts (.fieldLink RX4 24 "ShortEnough$Numbers" "lets" "[I") zw_X4_init_67) (fun _ h9 => h9) rfl hin rfl (by decide +kernel) rfl rfl (Nat.le_of_ble_eq_true rfl) dX4_init_41 ?_
  clear hP hD hS
  intro H locs hP hD hS
  replace hP : va_P (dC, dI) vwCl [(h0, .inr (4, [.int 0, .int 0, .ref q_1, .ref q_3, .ref q_5, .ref q_7, .ref q_9, .null, .null, .null])), zVi q_1 a_2 14 (fun _ => 0), zVi q_3 a_4 14 (fun _ => 0), zVi q_5 a_6 14 (fun _ => 0), zVi q_7 a_8 14 (fun _ => 0), zVi q_9 a_10 14 (fun _ => 0)] H := hP
  replace hD := zDW hD hP rfl
  refine lv_aload_n hx hb dX4_init_44 rfl (lv_at hl 0 rfl) ?_
  refine lv_bipush (v := 14) hx hb dX4_init_45 zcb_14 ?_
  refine va_newa (atype := .int) (ty := .int) (N' := 14) (a0 := (14, .inl (fun _ => 0))) hx hb (hts (.arrayClass .int) zw_X4_init_61) rfl hK hP hD hS hA (fun _ => rfl) (by decide +kernel) (by decide +kernel) (Nat.le_of_ble_eq_true rfl) (Nat.le_of_ble_eq_true rfl) (Nat.le_of_ble_eq_true rfl) dX4_init_47 (fun q_11 a_12 H hK hP hD hS => ?_)
  replace hP : va_P (dC, dI) vwCl [(h0, .inr (4, [.int 0, .int 0, .ref q_1, .ref q_3, .ref q_5, .ref q_7, .ref q_9, .null, .null, .null])), zVi q_1 a_2 14 (fun _ => 0), zVi q_3 a_4 14 (fun _ => 0), zVi q_5 a_6 14 (fun _ => 0), zVi q_7 a_8 14 (fun _ => 0), zVi q_9 a_10 14 (fun _ => 0), zVi q_11 a_12 14 (fun _ => 0)] H := hP
  replace hD := zDW hD hP rfl
  replace hK : va_K (dC, dI) vwCl [(a_2, .int), (a_4, .int), (a_6, .int), (a_8, .int), (a_10, .int), (a_12, .int)] s := hK
  refine W.widen (k := 6) (n := 84) (Nat.le_of_ble_eq_true rfl) (Nat.le_of_ble_eq_true rfl) ?_
  refine va_putF (D := (dC, dI)) (ci := 4) (v := .ref q_11) (ty := .array .int) (C := RX4) (T := TX4) (N := 10) hx hb hts zn_X4_init_X4 tyX4 tyX4_ok nmX4 hown hK hP hD hS 0 rfl rfl 7 (by decide) (hts (.fieldLink RX4 27 "ShortEnough$Numbers" "joined" "[I") zw_X4_init_68) (fun _ h9 => h9) rfl hin rfl (by decide +kernel) rfl rfl (Nat.le_of_ble_eq_true rfl) dX4_init_49 ?_
  clear hP hD hS
  intro H locs hP hD hS
  replace hP : va_P (dC, dI) vwCl [(h0, .inr (4, [.int 0, .int 0, .ref q_1, .ref q_3, .ref q_5, .ref q_7, .ref q_9, .ref q_11, .null, .null])), zVi q_1 a_2 14 (fun _ => 0), zVi q_3 a_4 14 (fun _ => 0), zVi q_5 a_6 14 (fun _ => 0), zVi q_7 a_8 14 (fun _ => 0), zVi q_9 a_10 14 (fun _ => 0), zVi q_11 a_12 14 (fun _ => 0)] H := hP
  replace hD := zDW hD hP rfl
  refine lv_aload_n hx hb dX4_init_52 rfl (lv_at hl 0 rfl) ?_
  refine lv_bipush (v := 28) hx hb dX4_init_53 zcb_28 ?_
  refine va_newa (atype := .int) (ty := .int) (N' := 28) (a0 := (28, .inl (fun _ => 0))) hx hb (hts (.arrayClass .int) zw_X4_init_61) rfl hK hP hD hS hA (fun _ => rfl) (by decide +kernel) (by decide +kernel) (Nat.le_of_ble_eq_true rfl) (Nat.le_of_ble_eq_true rfl) (Nat.le_of_ble_eq_true rfl) dX4_init_55 (fun q_13 a_14 H hK hP hD hS => ?_)
  replace hP : va_P (dC, dI) vwCl [(h0, .inr (4, [.int 0, .int 0, .ref q_1, .ref q_3, .ref q_5, .ref q_7, .ref q_9, .ref q_11, .null, .null])), zVi q_1 a_2 14 (fun _ => 0), zVi q_3 a_4 14 (fun _ => 0), zVi q_5 a_6 14 (fun _ => 0), zVi q_7 a_8 14 (fun _ => 0), zVi q_9 a_10 14 (fun _ => 0), zVi q_11 a_12 14 (fun _ => 0), zVi q_13 a_14 28 (fun _ => 0)] H := hP
  replace hD := zDW hD hP rfl
  replace hK : va_K (dC, dI) vwCl [(a_2, .int), (a_4, .int), (a_6, .int), (a_8, .int), (a_10, .int), (a_12, .int), (a_14, .int)] s := hK
  refine W.widen (k := 7) (n := 112) (Nat.le_of_ble_eq_true rfl) (Nat.le_of_ble_eq_true rfl) ?_
  refine va_putF (D := (dC, dI)) (ci := 4) (v := .ref q_13) (ty := .array .int) (C := RX4) (T := TX4) (N := 10) hx hb hts zn_X4_init_X4 tyX4 tyX4_ok nmX4 hown hK hP hD hS 0 rfl rfl 8 (by decide) (hts (.fieldLink RX4 30 "ShortEnough$Numbers" "made" "[I") zw_X4_init_69) (fun _ h9 => h9) rfl hin rfl (by decide +kernel) rfl rfl (Nat.le_of_ble_eq_true rfl) dX4_init_57 ?_
  clear hP hD hS
  intro H locs hP hD hS
  replace hP : va_P (dC, dI) vwCl [(h0, .inr (4, [.int 0, .int 0, .ref q_1, .ref q_3, .ref q_5, .ref q_7, .ref q_9, .ref q_11, .ref q_13, .null])), zVi q_1 a_2 14 (fun _ => 0), zVi q_3 a_4 14 (fun _ => 0), zVi q_5 a_6 14 (fun _ => 0), zVi q_7 a_8 14 (fun _ => 0), zVi q_9 a_10 14 (fun _ => 0), zVi q_11 a_12 14 (fun _ => 0), zVi q_13 a_14 28 (fun _ => 0)] H := hP
  replace hD := zDW hD hP rfl
  refine lv_aload_n hx hb dX4_init_60 rfl (lv_at hl 0 rfl) ?_
  refine lv_bipush (v := 28) hx hb dX4_init_61 zcb_28 ?_
  refine va_newa (atype := .int) (ty := .int) (N' := 28) (a0 := (28, .inl (fun _ => 0))) hx hb (hts (.arrayClass .int) zw_X4_init_61) rfl hK hP hD hS hA (fun _ => rfl) (by decide +kernel) (by decide +kernel) (Nat.le_of_ble_eq_true rfl) (Nat.le_of_ble_eq_true rfl) (Nat.le_of_ble_eq_true rfl) dX4_init_63 (fun q_15 a_16 H hK hP hD hS => ?_)
  replace hP : va_P (dC, dI) vwCl [(h0, .inr (4, [.int 0, .int 0, .ref q_1, .ref q_3, .ref q_5, .ref q_7, .ref q_9, .ref q_11, .ref q_13, .null])), zVi q_1 a_2 14 (fun _ => 0), zVi q_3 a_4 14 (fun _ => 0), zVi q_5 a_6 14 (fun _ => 0), zVi q_7 a_8 14 (fun _ => 0), zVi q_9 a_10 14 (fun _ => 0), zVi q_11 a_12 14 (fun _ => 0), zVi q_13 a_14 28 (fun _ => 0), zVi q_15 a_16 28 (fun _ => 0)] H := hP
  replace hD := zDW hD hP rfl
  replace hK : va_K (dC, dI) vwCl [(a_2, .int), (a_4, .int), (a_6, .int), (a_8, .int), (a_10, .int), (a_12, .int), (a_14, .int), (a_16, .int)] s := hK
  refine W.widen (k := 8) (n := 140) (Nat.le_of_ble_eq_true rfl) (Nat.le_of_ble_eq_true rfl) ?_
  refine va_putF (D := (dC, dI)) (ci := 4) (v := .ref q_15) (ty := .array .int) (C := RX4) (T := TX4) (N := 10) hx hb hts zn_X4_init_X4 tyX4 tyX4_ok nmX4 hown hK hP hD hS 0 rfl rfl 9 (by decide) (hts (.fieldLink RX4 33 "ShortEnough$Numbers" "amount" "[I") zw_X4_init_70) (fun _ h9 => h9) rfl hin rfl (by decide +kernel) rfl rfl (Nat.le_of_ble_eq_true rfl) dX4_init_65 ?_
  clear hP hD hS
  intro H locs hP hD hS
  replace hP : va_P (dC, dI) vwCl [zV4 h0 0 0 q_1 q_3 q_5 q_7 q_9 q_11 q_13 q_15, zVi q_1 a_2 14 (fun _ => 0), zVi q_3 a_4 14 (fun _ => 0), zVi q_5 a_6 14 (fun _ => 0), zVi q_7 a_8 14 (fun _ => 0), zVi q_9 a_10 14 (fun _ => 0), zVi q_11 a_12 14 (fun _ => 0), zVi q_13 a_14 28 (fun _ => 0), zVi q_15 a_16 28 (fun _ => 0)] H := hP
  replace hD := zDW hD hP rfl
  have hP9 := hP.sub (ws' := [zV4 h0 0 0 q_1 q_3 q_5 q_7 q_9 q_11 q_13 q_15, zVi q_1 a_2 14 (fun _ => 0), zVi q_3 a_4 14 (fun _ => 0), zVi q_5 a_6 14 (fun _ => 0), zVi q_7 a_8 14 (fun _ => 0), zVi q_9 a_10 14 (fun _ => 0), zVi q_11 a_12 14 (fun _ => 0), zVi q_13 a_14 28 (fun _ => 0), zVi q_15 a_16 28 (fun _ => 0)]) [0, 1, 2, 3, 4, 5, 6, 7, 8] rfl
  have hD9 := hD.sub (ws' := [zV4 h0 0 0 q_1 q_3 q_5 q_7 q_9 q_11 q_13 q_15, zVi q_1 a_2 14 (fun _ => 0), zVi q_3 a_4 14 (fun _ => 0), zVi q_5 a_6 14 (fun _ => 0), zVi q_7 a_8 14 (fun _ => 0), zVi q_9 a_10 14 (fun _ => 0), zVi q_11 a_12 14 (fun _ => 0), zVi q_13 a_14 28 (fun _ => 0), zVi q_15 a_16 28 (fun _ => 0)]) [0, 1, 2, 3, 4, 5, 6, 7, 8] (by decide) rfl
  have hK9 := hK.sub (tys' := [(a_2, .int), (a_4, .int), (a_6, .int), (a_8, .int), (a_10, .int), (a_12, .int), (a_14, .int), (a_16, .int)]) [0, 1, 2, 3, 4, 5, 6, 7] rfl
  refine W.widen (k := 8) (n := 140) (Nat.le_of_ble_eq_true rfl) (Nat.le_of_ble_eq_true rfl) ?_
  exact W.vret hx hb hr (fun t ht hW => ⟨⟨((fun k => ([q_1, q_3, q_5, q_7, q_9, q_11, q_13, q_15, a_2, a_4, a_6, a_8, a_10, a_12, a_14, a_16] : List Nat).getD k 0), (fun k => ([] : List (Nat → Int32)).getD k (fun _ => 0))), rfl, trivial, by rw [ht]; exact hP9, va_K.moved hW.alike hK9, hD9⟩, hS.F ht⟩) hS.2.2 dX4_init_68
set_option maxHeartbeats 4000000 in
set_option maxRecDepth 100000 in
theorem zc10_X2_init (l : Launch) (dC : Nat → ClassId) (dI : Nat → Nat → Nat) (h0 : Nat) (sz : Nat) : Met l yX2_init wsX2_init ({ frames := 1, cells := 3, slots := 42, locals := 20 }) (va_Pc [.ref h0] (fun U => U.heap.size = sz ∧ va_P (dC, dI) vwCl [(h0, .inr (2, [.int 0, .int 0, .int 0, .null, .null, .null]))] U.heap ∧ va_K (dC, dI) vwCl [] U ∧ va_D (fun _ => True) [(h0, .inr (2, [.int 0, .int 0, .int 0, .null, .null, .null]))])) (va_Qv (fun (u : zU) => True) (fun u t => va_P (dC, dI) vwCl [zV2 h0 0 0 0 (u.1 0) (u.1 1) (u.1 2), zVi (u.1 0) (u.1 3) 14 (fun _ => 0), zVi (u.1 1) (u.1 4) 14 (fun _ => 0), zVi (u.1 2) (u.1 5) 14 (fun _ => 0)] t.heap ∧ va_K (dC, dI) vwCl [((u.1 3), .int), ((u.1 4), .int), ((u.1 5), .int)] t ∧ va_D (va_A [(h0, .inr (2, [.int 0, .int 0, .int 0, .null, .null, .null]))] sz) [zV2 h0 0 0 0 (u.1 0) (u.1 1) (u.1 2), zVi (u.1 0) (u.1 3) 14 (fun _ => 0), zVi (u.1 1) (u.1 4) 14 (fun _ => 0), zVi (u.1 2) (u.1 5) 14 (fun _ => 0)]) (va_A [(h0, .inr (2, [.int 0, .int 0, .int 0, .null, .null, .null]))] sz)) 3 42 (va_A [(h0, .inr (2, [.int 0, .int 0, .int 0, .null, .null, .null]))] sz) := by
  refine Met.ofW (cc := cX2_init) (maxL := 1) (ret := none) (by decide +kernel) rfl ?_
  intro p e s m args below meth c s₁ B hml hv
  obtain ⟨rfl, hsz, hP, hK, hD0⟩ := hv
  have hx := B.exec
  have hb := B.bytes
  have hr := B.returns
  have hts := atoms_spec (ws := wsX2_init) B.pre
  have hown : s.vm.findClass RX2 = some m.cls := (findClass_of_methodNamed B.named :)
  have hlocks := B.notSynchronized
  have hin : meth.name = "<init>" := (name_of_methodNamed B.named B.method).1
  subst hsz
  replace hD := hD0.self (sz := s.heap.size)
  generalize hAe : va_A [(h0, .inr (2, [.int 0, .int 0, .int 0, .null, .null, .null]))] s.heap.size = A at hD ⊢
  have hA : ∀ q : Nat, s.heap.size ≤ q → A q := fun q h => by rw [← hAe]; exact Or.inr h
  have hS : va_S A s.heap s.heap [] := va_S.rf
  replace hP : va_P (dC, dI) vwCl [(h0, .inr (2, [.int 0, .int 0, .int 0, .null, .null, .null]))] s.heap := hP
  have hl := lv_entry ([.ref h0]) (n := 1) (Nat.le_of_ble_eq_true rfl)
  rw [lg_entry_eq]
  generalize (lg_sl ([.ref h0]) ++ List.replicate (1 - (lg_sl ([.ref h0])).length) Slot.unset).toArray = ls at hl ⊢
  have hl : lv_has ls 1 [(0, .ref h0)] := hl
  refine lv_aload_n hx hb dX2_init_0 rfl (lv_at hl 0 rfl) ?_
  refine W.objInit hx hb hown (hts (.methodLink RX2 3 objectInit) zw_X2_init_77) (hts (.instanceMethod objectInit) zw_X2_init_78) (hts (.code objectInit ⟨#[0xb1]⟩ 1 none) zw_X2_init_79) rfl (by rw [hml]; exact hl.1) rfl dX2_init_1 (Nat.le_of_ble_eq_true rfl) (Nat.le_of_ble_eq_true rfl) ?_
  refine W.eq (g2 := F0 m 4 ls []) rfl ?_
  refine lv_aload_n hx hb dX2_init_4 rfl (lv_at hl 0 rfl) ?_
  refine lv_bipush (v := 14) hx hb dX2_init_5 zcb_14 ?_
  refine va_newa (atype := .int) (ty := .int) (N' := 14) (a0 := (14, .inl (fun _ => 0))) hx hb (hts (.arrayClass .int) zw_X2_init_80) rfl hK hP hD hS hA (fun _ => rfl) (by decide +kernel) (by decide +kernel) (Nat.le_of_ble_eq_true rfl) (Nat.le_of_ble_eq_true rfl) (Nat.le_of_ble_eq_true rfl) dX2_init_7 (fun q_1 a_2 H hK hP hD hS => ?_)
  replace hP : va_P (dC, dI) vwCl [(h0, .inr (2, [.int 0, .int 0, .int 0, .null, .null, .null])), zVi q_1 a_2 14 (fun _ => 0)] H := hP
  replace hD := zDW hD hP rfl
  replace hK : va_K (dC, dI) vwCl [(a_2, .int)] s := hK
  refine W.widen (k := 1) (n := 14) (Nat.le_of_ble_eq_true rfl) (Nat.le_of_ble_eq_true rfl) ?_
  refine va_putF (D := (dC, dI)) (ci := 2) (v := .ref q_1) (ty := .array .int) (C := RX2) (T := TX2) (N := 6) hx hb hts zn_X2_init_X2 tyX2 tyX2_ok nmX2 hown hK hP hD hS 0 rfl rfl 3 (by decide) (hts (.fieldLink RX2 9 "ShortEnough$Groups" "of" "[I") zw_X2_init_82) (fun _ h9 => h9) rfl hin rfl (by decide +kernel) rfl rfl (Nat.le_of_ble_eq_true rfl) dX2_init_9 ?_
  clear hP hD hS
  intro H locs hP hD hS
  replace hP : va_P (dC, dI) vwCl [(h0, .inr (2, [.int 0, .int 0, .int 0, .ref q_1, .null, .null])), zVi q_1 a_2 14 (fun _ => 0)] H := hP
  replace hD := zDW hD hP rfl
  refine lv_aload_n hx hb dX2_init_12 rfl (lv_at hl 0 rfl) ?_
  refine lv_bipush (v := 14) hx hb dX2_init_13 zcb_14 ?_
  refine va_newa (atype := .int) (ty := .int) (N' := 14) (a0 := (14, .inl (fun _ => 0))) hx hb (hts (.arrayClass .int) zw_X2_init_80) rfl hK hP hD hS hA (fun _ => rfl) (by decide +kernel) (by decide +kernel) (Nat.le_of_ble_eq_true rfl) (Nat.le_of_ble_eq_true rfl) (Nat.le_of_ble_eq_true rfl) dX2_init_15 (fun q_3 a_4 H hK hP hD hS => ?_)
  replace hP : va_P (dC, dI) vwCl [(h0, .inr (2, [.int 0, .int 0, .int 0, .ref q_1, .null, .null])), zVi q_1 a_2 14 (fun _ => 0), zVi q_3 a_4 14 (fun _ => 0)] H := hP
  replace hD := zDW hD hP rfl
  replace hK : va_K (dC, dI) vwCl [(a_2, .int), (a_4, .int)] s := hK
  refine W.widen (k := 2) (n := 28) (Nat.le_of_ble_eq_true rfl) (Nat.le_of_ble_eq_true rfl) ?_
  refine va_putF (D := (dC, dI)) (ci := 2) (v := .ref q_3) (ty := .array .int) (C := RX2) (T := TX2) (N := 6) hx hb hts zn_X2_init_X2 tyX2 tyX2_ok nmX2 hown hK hP hD hS 0 rfl rfl 4 (by decide) (hts (.fieldLink RX2 15 "ShortEnough$Groups" "fixedAs" "[I") zw_X2_init_83) (fun _ h9 => h9) rfl hin rfl (by decide +kernel) rfl rfl (Nat.le_of_ble_eq_true rfl) dX2_init_17 ?_
  clear hP hD hS
  intro H locs hP hD hS
  replace hP : va_P (dC, dI) vwCl [(h0, .inr (2, [.int 0, .int 0, .int 0, .ref q_1, .ref q_3, .null])), zVi q_1 a_2 14 (fun _ => 0), zVi q_3 a_4 14 (fun _ => 0)] H := hP
  replace hD := zDW hD hP rfl
  refine lv_aload_n hx hb dX2_init_20 rfl (lv_at hl 0 rfl) ?_
  refine lv_bipush (v := 14) hx hb dX2_init_21 zcb_14 ?_
  refine va_newa (atype := .int) (ty := .int) (N' := 14) (a0 := (14, .inl (fun _ => 0))) hx hb (hts (.arrayClass .int) zw_X2_init_80) rfl hK hP hD hS hA (fun _ => rfl) (by decide +kernel) (by decide +kernel) (Nat.le_of_ble_eq_true rfl) (Nat.le_of_ble_eq_true rfl) (Nat.le_of_ble_eq_true rfl) dX2_init_23 (fun q_5 a_6 H hK hP hD hS => ?_)
  replace hP : va_P (dC, dI) vwCl [(h0, .inr (2, [.int 0, .int 0, .int 0, .ref q_1, .ref q_3, .null])), zVi q_1 a_2 14 (fun _ => 0), zVi q_3 a_4 14 (fun _ => 0), zVi q_5 a_6 14 (fun _ => 0)] H := hP
  replace hD := zDW hD hP rfl
  replace hK : va_K (dC, dI) vwCl [(a_2, .int), (a_4, .int), (a_6, .int)] s := hK
  refine W.widen (k := 3) (n := 42) (Nat.le_of_ble_eq_true rfl) (Nat.le_of_ble_eq_true rfl) ?_
  refine va_putF (D := (dC, dI)) (ci := 2) (v := .ref q_5) (ty := .array .int) (C := RX2) (T := TX2) (N := 6) hx hb hts zn_X2_init_X2 tyX2 tyX2_ok nmX2 hown hK hP hD hS 0 rfl rfl 5 (by decide) (hts (.fieldLink RX2 18 "ShortEnough$Groups" "leader" "[I") zw_X2_init_84) (fun _ h9 => h9) rfl hin rfl (by decide +kernel) rfl rfl (Nat.le_of_ble_eq_true rfl) dX2_init_25 ?_
  clear hP hD hS
  intro H locs hP hD hS
  replace hP : va_P (dC, dI) vwCl [zV2 h0 0 0 0 q_1 q_3 q_5, zVi q_1 a_2 14 (fun _ => 0), zVi q_3 a_4 14 (fun _ => 0), zVi q_5 a_6 14 (fun _ => 0)] H := hP
  replace hD := zDW hD hP rfl
  have hP9 := hP.sub (ws' := [zV2 h0 0 0 0 q_1 q_3 q_5, zVi q_1 a_2 14 (fun _ => 0), zVi q_3 a_4 14 (fun _ => 0), zVi q_5 a_6 14 (fun _ => 0)]) [0, 1, 2, 3] rfl
  have hD9 := hD.sub (ws' := [zV2 h0 0 0 0 q_1 q_3 q_5, zVi q_1 a_2 14 (fun _ => 0), zVi q_3 a_4 14 (fun _ => 0), zVi q_5 a_6 14 (fun _ => 0)]) [0, 1, 2, 3] (by decide) rfl
  have hK9 := hK.sub (tys' := [(a_2, .int), (a_4, .int), (a_6, .int)]) [0, 1, 2] rfl
  refine W.widen (k := 3) (n := 42) (Nat.le_of_ble_eq_true rfl) (Nat.le_of_ble_eq_true rfl) ?_
  exact W.vret hx hb hr (fun t ht hW => ⟨⟨((fun k => ([q_1, q_3, q_5, a_2, a_4, a_6] : List Nat).getD k 0), (fun k => ([] : List (Nat → Int32)).getD k (fun _ => 0))), rfl, trivial, by rw [ht]; exact hP9, va_K.moved hW.alike hK9, hD9⟩, hS.F ht⟩) hS.2.2 dX2_init_28
set_option maxHeartbeats 4000000 in
set_option maxRecDepth 100000 in
theorem zc11_X6_init (l : Launch) (dC : Nat → ClassId) (dI : Nat → Nat → Nat) (h0 : Nat) (sz : Nat) : Met l yX6_init wsX6_init ({ frames := 1, cells := 3, slots := 42, locals := 20 }) (va_Pc [.ref h0] (fun U => U.heap.size = sz ∧ va_P (dC, dI) vwCl [(h0, .inr (6, [.null, .null, .null]))] U.heap ∧ va_K (dC, dI) vwCl [] U ∧ va_D (fun _ => True) [(h0, .inr (6, [.null, .null, .null]))])) (va_Qv (fun (u : zU) => True) (fun u t => va_P (dC, dI) vwCl [zV6 h0 (u.1 0) (u.1 1) (u.1 2), zVl (u.1 0) (u.1 3) 14 (fun _ => 0), zVl (u.1 1) (u.1 4) 14 (fun _ => 0), zVi (u.1 2) (u.1 5) 14 (fun _ => 0)] t.heap ∧ va_K (dC, dI) vwCl [((u.1 3), .long), ((u.1 4), .long), ((u.1 5), .boolean)] t ∧ va_D (va_A [(h0, .inr (6, [.null, .null, .null]))] sz) [zV6 h0 (u.1 0) (u.1 1) (u.1 2), zVl (u.1 0) (u.1 3) 14 (fun _ => 0), zVl (u.1 1) (u.1 4) 14 (fun _ => 0), zVi (u.1 2) (u.1 5) 14 (fun _ => 0)]) (va_A [(h0, .inr (6, [.null, .null, .null]))] sz)) 3 42 (va_A [(h0, .inr (6, [.null, .null, .null]))] sz) := by
  refine Met.ofW (cc := cX6_init) (maxL := 1) (ret := none) (by decide +kernel) rfl ?_
  intro p e s m args below meth c s₁ B hml hv
  obtain ⟨rfl, hsz, hP, hK, hD0⟩ := hv
  have hx := B.exec
  have hb := B.bytes
  have hr := B.returns
  have hts := atoms_spec (ws := wsX6_init) B.pre
  have hown : s.vm.findClass RX6 = some m.cls := (findClass_of_methodNamed B.named :)
  have hlocks := B.notSynchronized
  have hin : meth.name = "<init>" := (name_of_methodNamed B.named B.method).1
  subst hsz
  replace hD := hD0.self (sz := s.heap.size)
  generalize hAe : va_A [(h0, .inr (6, [.null, .null, .null]))] s.heap.size = A at hD ⊢
  have hA : ∀ q : Nat, s.heap.size ≤ q → A q := fun q h => by rw [← hAe]; exact Or.inr h
  have hS : va_S A s.heap s.heap [] := va_S.rf
  replace hP : va_P (dC, dI) vwCl [(h0, .inr (6, [.null, .null, .null]))] s.heap := hP
  have hl := lv_entry ([.ref h0]) (n := 1) (Nat.le_of_ble_eq_true rfl)
  rw [lg_entry_eq]
  generalize (lg_sl ([.ref h0]) ++ List.replicate (1 - (lg_sl ([.ref h0])).length) Slot.unset).toArray = ls at hl ⊢
  have hl : lv_has ls 1 [(0, .ref h0)] := hl
  refine lv_aload_n hx hb dX6_init_0 rfl (lv_at hl 0 rfl) ?_
  refine W.objInit hx hb hown (hts (.methodLink RX6 3 objectInit) zw_X6_init_91) (hts (.instanceMethod objectInit) zw_X6_init_92) (hts (.code objectInit ⟨#[0xb1]⟩ 1 none) zw_X6_init_93) rfl (by rw [hml]; exact hl.1) rfl dX6_init_1 (Nat.le_of_ble_eq_true rfl) (Nat.le_of_ble_eq_true rfl) ?_
  refine W.eq (g2 := F0 m 4 ls []) rfl ?_
  refine lv_aload_n hx hb dX6_init_4 rfl (lv_at hl 0 rfl) ?_
  refine lv_bipush (v := 14) hx hb dX6_init_5 zcb_14 ?_
  refine va_newa (atype := .long) (ty := .long) (N' := 14) (a0 := (14, .inr (.inl (fun _ => 0)))) hx hb (hts (.arrayClass .long) zw_X6_init_94) rfl hK hP hD hS hA (fun _ => rfl) (by decide +kernel) (by decide +kernel) (Nat.le_of_ble_eq_true rfl) (Nat.le_of_ble_eq_true rfl) (Nat.le_of_ble_eq_true rfl) dX6_init_7 (fun q_1 a_2 H hK hP hD hS => ?_)
  replace hP : va_P (dC, dI) vwCl [(h0, .inr (6, [.null, .null, .null])), zVl q_1 a_2 14 (fun _ => 0)] H := hP
  replace hD := zDW hD hP rfl
  replace hK : va_K (dC, dI) vwCl [(a_2, .long)] s := hK
  refine W.widen (k := 1) (n := 14) (Nat.le_of_ble_eq_true rfl) (Nat.le_of_ble_eq_true rfl) ?_
  refine va_putF (D := (dC, dI)) (ci := 6) (v := .ref q_1) (ty := .array .long) (C := RX6) (T := TX6) (N := 3) hx hb hts zn_X6_init_X6 tyX6 tyX6_ok nmX6 hown hK hP hD hS 0 rfl rfl 0 (by decide) (hts (.fieldLink RX6 9 "ShortEnough$Ranges" "low" "[J") zw_X6_init_96) (fun _ h9 => h9) rfl hin rfl (by decide +kernel) rfl rfl (Nat.le_of_ble_eq_true rfl) dX6_init_9 ?_
  clear hP hD hS
  intro H locs hP hD hS
  replace hP : va_P (dC, dI) vwCl [(h0, .inr (6, [.ref q_1, .null, .null])), zVl q_1 a_2 14 (fun _ => 0)] H := hP
  replace hD := zDW hD hP rfl
  refine lv_aload_n hx hb dX6_init_12 rfl (lv_at hl 0 rfl) ?_
  refine lv_bipush (v := 14) hx hb dX6_init_13 zcb_14 ?_
  refine va_newa (atype := .long) (ty := .long) (N' := 14) (a0 := (14, .inr (.inl (fun _ => 0)))) hx hb (hts (.arrayClass .long) zw_X6_init_94) rfl hK hP hD hS hA (fun _ => rfl) (by decide +kernel) (by decide +kernel) (Nat.le_of_ble_eq_true rfl) (Nat.le_of_ble_eq_true rfl) (Nat.le_of_ble_eq_true rfl) dX6_init_15 (fun q_3 a_4 H hK hP hD hS => ?_)
  replace hP : va_P (dC, dI) vwCl [(h0, .inr (6, [.ref q_1, .null, .null])), zVl q_1 a_2 14 (fun _ => 0), zVl q_3 a_4 14 (fun _ => 0)] H := hP
  replace hD := zDW hD hP rfl
  replace hK : va_K (dC, dI) vwCl [(a_2, .long), (a_4, .long)] s := hK
  refine W.widen (k := 2) (n := 28) (Nat.le_of_ble_eq_true rfl) (Nat.le_of_ble_eq_true rfl) ?_
  refine va_putF (D := (dC, dI)) (ci := 6) (v := .ref q_3) (ty := .array .long) (C := RX6) (T := TX6) (N := 3) hx hb hts zn_X6_init_X6 tyX6 tyX6_ok nmX6 hown hK hP hD hS 0 rfl rfl 1 (by decide) (hts (.fieldLink RX6 15 "ShortEnough$Ranges" "high" "[J") zw_X6_init_97) (fun _ h9 => h9) rfl hin rfl (by decide +kernel) rfl rfl (Nat.le_of_ble_eq_true rfl) dX6_init_17 ?_
  clear hP hD hS
  intro H locs hP hD hS
  replace hP : va_P (dC, dI) vwCl [(h0, .inr (6, [.ref q_1, .ref q_3, .null])), zVl q_1 a_2 14 (fun _ => 0), zVl q_3 a_4 14 (fun _ => 0)] H := hP
  replace hD := zDW hD hP rfl
  refine lv_aload_n hx hb dX6_init_20 rfl (lv_at hl 0 rfl) ?_
  refine lv_bipush (v := 14) hx hb dX6_init_21 zcb_14 ?_
  refine va_newa (atype := .boolean) (ty := .boolean) (N' := 14) (a0 := (14, .inl (fun _ => 0))) hx hb (hts (.arrayClass .boolean) zw_X6_init_98) rfl hK hP hD hS hA (fun _ => rfl) (by decide +kernel) (by decide +kernel) (Nat.le_of_ble_eq_true rfl) (Nat.le_of_ble_eq_true rfl) (Nat.le_of_ble_eq_true rfl) dX6_init_23 (fun q_5 a_6 H hK hP hD hS => ?_)
  replace hP : va_P (dC, dI) vwCl [(h0, .inr (6, [.ref q_1, .ref q_3, .null])), zVl q_1 a_2 14 (fun _ => 0), zVl q_3 a_4 14 (fun _ => 0), zVi q_5 a_6 14 (fun _ => 0)] H := hP
  replace hD := zDW hD hP rfl
  replace hK : va_K (dC, dI) vwCl [(a_2, .long), (a_4, .long), (a_6, .boolean)] s := hK
  refine W.widen (k := 3) (n := 42) (Nat.le_of_ble_eq_true rfl) (Nat.le_of_ble_eq_true rfl) ?_
  refine va_putF (D := (dC, dI)) (ci := 6) (v := .ref q_5) (ty := .array .boolean) (C := RX6) (T := TX6) (N := 3) hx hb hts zn_X6_init_X6 tyX6 tyX6_ok nmX6 hown hK hP hD hS 0 rfl rfl 2 (by decide) (hts (.fieldLink RX6 18 "ShortEnough$Ranges" "wide" "[Z") zw_X6_init_99) (fun _ h9 => h9) rfl hin rfl (by decide +kernel) rfl rfl (Nat.le_of_ble_eq_true rfl) dX6_init_25 ?_
  clear hP hD hS
  intro H locs hP hD hS
  replace hP : va_P (dC, dI) vwCl [zV6 h0 q_1 q_3 q_5, zVl q_1 a_2 14 (fun _ => 0), zVl q_3 a_4 14 (fun _ => 0), zVi q_5 a_6 14 (fun _ => 0)] H := hP
  replace hD := zDW hD hP rfl
  have hP9 := hP.sub (ws' := [zV6 h0 q_1 q_3 q_5, zVl q_1 a_2 14 (fun _ => 0), zVl q_3 a_4 14 (fun _ => 0), zVi q_5 a_6 14 (fun _ => 0)]) [0, 1, 2, 3] rfl
  have hD9 := hD.sub (ws' := [zV6 h0 q_1 q_3 q_5, zVl q_1 a_2 14 (fun _ => 0), zVl q_3 a_4 14 (fun _ => 0), zVi q_5 a_6 14 (fun _ => 0)]) [0, 1, 2, 3] (by decide) rfl
  have hK9 := hK.sub (tys' := [(a_2, .long), (a_4, .long), (a_6, .boolean)]) [0, 1, 2] rfl
  refine W.widen (k := 3) (n := 42) (Nat.le_of_ble_eq_true rfl) (Nat.le_of_ble_eq_true rfl) ?_
  exact W.vret hx hb hr (fun t ht hW => ⟨⟨((fun k => ([q_1, q_3, q_5, a_2, a_4, a_6] : List Nat).getD k 0), (fun k => ([] : List (Nat → Int32)).getD k (fun _ => 0))), rfl, trivial, by rw [ht]; exact hP9, va_K.moved hW.alike hK9, hD9⟩, hS.F ht⟩) hS.2.2 dX6_init_28
set_option maxHeartbeats 4000000 in
set_option maxRecDepth 100000 in
theorem zc12_X9_init (l : Launch) (dC : Nat → ClassId) (dI : Nat → Nat → Nat) (h0 : Nat) (sz : Nat) : Met l yX9_init wsX9_init ({ frames := 2, cells := 21, slots := 259, locals := 40 }) (va_Pc [.ref h0] (fun U => va_Nw (.methodLinkNest RX9 26 yX4_init RX11) U ∧ va_Nw (.methodLinkNest RX9 33 yX2_init RX11) U ∧ va_Nw (.methodLinkNest RX9 40 yX6_init RX11) U ∧ U.heap.size = sz ∧ va_P (dC, dI) vwCl [(h0, .inr (9, [.int 0, .null, .null, .null, .null, .int 0, .null, .null, .null]))] U.heap ∧ va_K (dC, dI) vwCl [] U ∧ va_D (fun _ => True) [(h0, .inr (9, [.int 0, .null, .null, .null, .null, .int 0, .null, .null, .null]))])) (va_Qv (fun (u : zU) => True) (fun u t => va_P (dC, dI) vwCl [zV9 h0 0 (u.1 0) (u.1 1) (u.1 2) (u.1 3) 0 (u.1 4) (u.1 5) (u.1 6), zVi (u.1 0) (u.1 7) 4 (fun _ => 0), zVi (u.1 1) (u.1 8) 4 (fun _ => 0), zVi (u.1 2) (u.1 9) 4 (fun _ => 0), zVi (u.1 3) (u.1 10) 4 (fun _ => 0), zV4 (u.1 4) 0 0 (u.1 11) (u.1 12) (u.1 13) (u.1 14) (u.1 15) (u.1 16) (u.1 17) (u.1 18), zVi (u.1 11) (u.1 19) 14 (fun _ => 0), zVi (u.1 12) (u.1 20) 14 (fun _ => 0), zVi (u.1 13) (u.1 21) 14 (fun _ => 0), zVi (u.1 14) (u.1 22) 14 (fun _ => 0), zVi (u.1 15) (u.1 23) 14 (fun _ => 0), zVi (u.1 16) (u.1 24) 14 (fun _ => 0), zVi (u.1 17) (u.1 25) 28 (fun _ => 0), zVi (u.1 18) (u.1 26) 28 (fun _ => 0), zV2 (u.1 5) 0 0 0 (u.1 27) (u.1 28) (u.1 29), zVi (u.1 27) (u.1 30) 14 (fun _ => 0), zVi (u.1 28) (u.1 31) 14 (fun _ => 0), zVi (u.1 29) (u.1 32) 14 (fun _ => 0), zV6 (u.1 6) (u.1 33) (u.1 34) (u.1 35), zVl (u.1 33) (u.1 36) 14 (fun _ => 0), zVl (u.1 34) (u.1 37) 14 (fun _ => 0), zVi (u.1 35) (u.1 38) 14 (fun _ => 0)] t.heap ∧ va_K (dC, dI) vwCl [((u.1 7), .int), ((u.1 8), .int), ((u.1 9), .int), ((u.1 10), .int), ((u.1 19), .int), ((u.1 20), .int), ((u.1 21), .int), ((u.1 22), .int), ((u.1 23), .int), ((u.1 24), .int), ((u.1 25), .int), ((u.1 26), .int), ((u.1 30), .int), ((u.1 31), .int), ((u.1 32), .int), ((u.1 36), .long), ((u.1 37), .long), ((u.1 38), .boolean)] t ∧ va_D (va_A [(h0, .inr (9, [.int 0, .null, .null, .null, .null, .int 0, .null, .null, .null]))] sz) [zV9 h0 0 (u.1 0) (u.1 1) (u.1 2) (u.1 3) 0 (u.1 4) (u.1 5) (u.1 6), zVi (u.1 0) (u.1 7) 4 (fun _ => 0), zVi (u.1 1) (u.1 8) 4 (fun _ => 0), zVi (u.1 2) (u.1 9) 4 (fun _ => 0), zVi (u.1 3) (u.1 10) 4 (fun _ => 0), zV4 (u.1 4) 0 0 (u.1 11) (u.1 12) (u.1 13) (u.1 14) (u.1 15) (u.1 16) (u.1 17) (u.1 18), zVi (u.1 11) (u.1 19) 14 (fun _ => 0), zVi (u.1 12) (u.1 20) 14 (fun _ => 0), zVi (u.1 13) (u.1 21) 14 (fun _ => 0), zVi (u.1 14) (u.1 22) 14 (fun _ => 0), zVi (u.1 15) (u.1 23) 14 (fun _ => 0), zVi (u.1 16) (u.1 24) 14 (fun _ => 0), zVi (u.1 17) (u.1 25) 28 (fun _ => 0), zVi (u.1 18) (u.1 26) 28 (fun _ => 0), zV2 (u.1 5) 0 0 0 (u.1 27) (u.1 28) (u.1 29), zVi (u.1 27) (u.1 30) 14 (fun _ => 0), zVi (u.1 28) (u.1 31) 14 (fun _ => 0), zVi (u.1 29) (u.1 32) 14 (fun _ => 0), zV6 (u.1 6) (u.1 33) (u.1 34) (u.1 35), zVl (u.1 33) (u.1 36) 14 (fun _ => 0), zVl (u.1 34) (u.1 37) 14 (fun _ => 0), zVi (u.1 35) (u.1 38) 14 (fun _ => 0)]) (va_A [(h0, .inr (9, [.int 0, .null, .null, .null, .null, .int 0, .null, .null, .null]))] sz)) 21 259 (va_A [(h0, .inr (9, [.int 0, .null, .null, .null, .null, .int 0, .null, .null, .null]))] sz) := by
  refine Met.ofW (cc := cX9_init) (maxL := 1) (ret := none) (by decide +kernel) rfl ?_
  intro p e s m args below meth c s₁ B hml hv
  obtain ⟨rfl, hn0, hn1, hn2, hsz, hP, hK, hD0⟩ := hv
  have hx := B.exec
  have hb := B.bytes
  have hr := B.returns
  have hts := atoms_spec (ws := wsX9_init) B.pre
  have hown : s.vm.findClass RX9 = some m.cls := (findClass_of_methodNamed B.named :)
  have hlocks := B.notSynchronized
  have hin : meth.name = "<init>" := (name_of_methodNamed B.named B.method).1
  subst hsz
  replace hD := hD0.self (sz := s.heap.size)
  generalize hAe : va_A [(h0, .inr (9, [.int 0, .null, .null, .null, .null, .int 0, .null, .null, .null]))] s.heap.size = A at hD ⊢
  have hA : ∀ q : Nat, s.heap.size ≤ q → A q := fun q h => by rw [← hAe]; exact Or.inr h
  have hS : va_S A s.heap s.heap [] := va_S.rf
  replace hP : va_P (dC, dI) vwCl [(h0, .inr (9, [.int 0, .null, .null, .null, .null, .int 0, .null, .null, .null]))] s.heap := hP
  have hl := lv_entry ([.ref h0]) (n := 1) (Nat.le_of_ble_eq_true rfl)
  rw [lg_entry_eq]
  generalize (lg_sl ([.ref h0]) ++ List.replicate (1 - (lg_sl ([.ref h0])).length) Slot.unset).toArray = ls at hl ⊢
  have hl : lv_has ls 1 [(0, .ref h0)] := hl
  refine lv_aload_n hx hb dX9_init_0 rfl (lv_at hl 0 rfl) ?_
  refine W.objInit hx hb hown (hts (.methodLink RX9 3 objectInit) zw_X9_init_45) (hts (.instanceMethod objectInit) zw_X9_init_46) (hts (.code objectInit ⟨#[0xb1]⟩ 1 none) zw_X9_init_47) rfl (by rw [hml]; exact hl.1) rfl dX9_init_1 (Nat.le_of_ble_eq_true rfl) (Nat.le_of_ble_eq_true rfl) ?_
  refine W.eq (g2 := F0 m 4 ls []) rfl ?_
  refine lv_aload_n hx hb dX9_init_4 rfl (lv_at hl 0 rfl) ?_
  refine lv_iconst (v := 4) hx hb dX9_init_5 zci_4 ?_
  refine va_newa (atype := .int) (ty := .int) (N' := 4) (a0 := (4, .inl (fun _ => 0))) hx hb (hts (.arrayClass .int) zw_X9_init_48) rfl hK hP hD hS hA (fun _ => rfl) (by decide +kernel) (by decide +kernel) (Nat.le_of_ble_eq_true rfl) (Nat.le_of_ble_eq_true rfl) (Nat.le_of_ble_eq_true rfl) dX9_init_6 (fun q_1 a_2 H hK hP hD hS => ?_)
  replace hP : va_P (dC, dI) vwCl [(h0, .inr (9, [.int 0, .null, .null, .null, .null, .int 0, .null, .null, .null])), zVi q_1 a_2 4 (fun _ => 0)] H := hP
  replace hD := zDW hD hP rfl
  replace hK : va_K (dC, dI) vwCl [(a_2, .int)] s := hK
  refine W.widen (k := 1) (n := 4) (Nat.le_of_ble_eq_true rfl) (Nat.le_of_ble_eq_true rfl) ?_
  refine va_putF (D := (dC, dI)) (ci := 9) (v := .ref q_1) (ty := .array .int) (C := RX9) (T := TX9) (N := 9) hx hb hts zn_X9_init_X9 tyX9 tyX9_ok nmX9 hown hK hP hD hS 0 rfl rfl 1 (by decide) (hts (.fieldLink RX9 9 "ShortEnough$Task" "formatName" "[I") zw_X9_init_50) (fun _ h9 => h9) rfl hin rfl (by decide +kernel) rfl rfl (Nat.le_of_ble_eq_true rfl) dX9_init_8 ?_
  clear hP hD hS
  intro H locs hP hD hS
  replace hP : va_P (dC, dI) vwCl [(h0, .inr (9, [.int 0, .ref q_1, .null, .null, .null, .int 0, .null, .null, .null])), zVi q_1 a_2 4 (fun _ => 0)] H := hP
  replace hD := zDW hD hP rfl
  refine lv_aload_n hx hb dX9_init_11 rfl (lv_at hl 0 rfl) ?_
  refine lv_iconst (v := 4) hx hb dX9_init_12 zci_4 ?_
  refine va_newa (atype := .int) (ty := .int) (N' := 4) (a0 := (4, .inl (fun _ => 0))) hx hb (hts (.arrayClass .int) zw_X9_init_48) rfl hK hP hD hS hA (fun _ => rfl) (by decide +kernel) (by decide +kernel) (Nat.le_of_ble_eq_true rfl) (Nat.le_of_ble_eq_true rfl) (Nat.le_of_ble_eq_true rfl) dX9_init_13 (fun q_3 a_4 H hK hP hD hS => ?_)
  replace hP : va_P (dC, dI) vwCl [(h0, .inr (9, [.int 0, .ref q_1, .null, .null, .null, .int 0, .null, .null, .null])), zVi q_1 a_2 4 (fun _ => 0), zVi q_3 a_4 4 (fun _ => 0)] H := hP
  replace hD := zDW hD hP rfl
  replace hK : va_K (dC, dI) vwCl [(a_2, .int), (a_4, .int)] s := hK
  refine W.widen (k := 2) (n := 8) (Nat.le_of_ble_eq_true rfl) (Nat.le_of_ble_eq_true rfl) ?_
  refine va_putF (D := (dC, dI)) (ci := 9) (v := .ref q_3) (ty := .array .int) (C := RX9) (T := TX9) (N := 9) hx hb hts zn_X9_init_X9 tyX9 tyX9_ok nmX9 hown hK hP hD hS 0 rfl rfl 2 (by decide) (hts (.fieldLink RX9 15 "ShortEnough$Task" "step" "[I") zw_X9_init_51) (fun _ h9 => h9) rfl hin rfl (by decide +kernel) rfl rfl (Nat.le_of_ble_eq_true rfl) dX9_init_15 ?_
  clear hP hD hS
  intro H locs hP hD hS
  replace hP : va_P (dC, dI) vwCl [(h0, .inr (9, [.int 0, .ref q_1, .ref q_3, .null, .null, .int 0, .null, .null, .null])), zVi q_1 a_2 4 (fun _ => 0), zVi q_3 a_4 4 (fun _ => 0)] H := hP
  replace hD := zDW hD hP rfl
  refine lv_aload_n hx hb dX9_init_18 rfl (lv_at hl 0 rfl) ?_
  refine lv_iconst (v := 4) hx hb dX9_init_19 zci_4 ?_
  refine va_newa (atype := .int) (ty := .int) (N' := 4) (a0 := (4, .inl (fun _ => 0))) hx hb (hts (.arrayClass .int) zw_X9_init_48) rfl hK hP hD hS hA (fun _ => rfl) (by decide +kernel) (by decide +kernel) (Nat.le_of_ble_eq_true rfl) (Nat.le_of_ble_eq_true rfl) (Nat.le_of_ble_eq_true rfl) dX9_init_20 (fun q_5 a_6 H hK hP hD hS => ?_)
  replace hP : va_P (dC, dI) vwCl [(h0, .inr (9, [.int 0, .ref q_1, .ref q_3, .null, .null, .int 0, .null, .null, .null])), zVi q_1 a_2 4 (fun _ => 0), zVi q_3 a_4 4 (fun _ => 0), zVi q_5 a_6 4 (fun _ => 0)] H := hP
  replace hD := zDW hD hP rfl
  replace hK : va_K (dC, dI) vwCl [(a_2, .int), (a_4, .int), (a_6, .int)] s := hK
  refine W.widen (k := 3) (n := 12) (Nat.le_of_ble_eq_true rfl) (Nat.le_of_ble_eq_true rfl) ?_
  refine va_putF (D := (dC, dI)) (ci := 9) (v := .ref q_5) (ty := .array .int) (C := RX9) (T := TX9) (N := 9) hx hb hts zn_X9_init_X9 tyX9 tyX9_ok nmX9 hown hK hP hD hS 0 rfl rfl 3 (by decide) (hts (.fieldLink RX9 18 "ShortEnough$Task" "most" "[I") zw_X9_init_52) (fun _ h9 => h9) rfl hin rfl (by decide +kernel) rfl rfl (Nat.le_of_ble_eq_true rfl) dX9_init_22 ?_
  clear hP hD hS
  intro H locs hP hD hS
  replace hP : va_P (dC, dI) vwCl [(h0, .inr (9, [.int 0, .ref q_1, .ref q_3, .ref q_5, .null, .int 0, .null, .null, .null])), zVi q_1 a_2 4 (fun _ => 0), zVi q_3 a_4 4 (fun _ => 0), zVi q_5 a_6 4 (fun _ => 0)] H := hP
  replace hD := zDW hD hP rfl
  refine lv_aload_n hx hb dX9_init_25 rfl (lv_at hl 0 rfl) ?_
  refine lv_iconst (v := 4) hx hb dX9_init_26 zci_4 ?_
  refine va_newa (atype := .int) (ty := .int) (N' := 4) (a0 := (4, .inl (fun _ => 0))) hx hb (hts (.arrayClass .int) zw_X9_init_48) rfl hK hP hD hS hA (fun _ => rfl) (by decide +kernel) (by decide +kernel) (Nat.le_of_ble_eq_true rfl) (Nat.le_of_ble_eq_true rfl) (Nat.le_of_ble_eq_true rfl) dX9_init_27 (fun q_7 a_8 H hK hP hD hS => ?_)
  replace hP : va_P (dC, dI) vwCl [(h0, .inr (9, [.int 0, .ref q_1, .ref q_3, .ref q_5, .null, .int 0, .null, .null, .null])), zVi q_1 a_2 4 (fun _ => 0), zVi q_3 a_4 4 (fun _ => 0), zVi q_5 a_6 4 (fun _ => 0), zVi q_7 a_8 4 (fun _ => 0)] H := hP
  replace hD := zDW hD hP rfl
  replace hK : va_K (dC, dI) vwCl [(a_2, .int), (a_4, .int), (a_6, .int), (a_8, .int)] s := hK
  refine W.widen (k := 4) (n := 16) (Nat.le_of_ble_eq_true rfl) (Nat.le_of_ble_eq_true rfl) ?_
  refine va_putF (D := (dC, dI)) (ci := 9) (v := .ref q_7) (ty := .array .int) (C := RX9) (T := TX9) (N := 9) hx hb hts zn_X9_init_X9 tyX9 tyX9_ok nmX9 hown hK hP hD hS 0 rfl rfl 4 (by decide) (hts (.fieldLink RX9 21 "ShortEnough$Task" "price" "[I") zw_X9_init_53) (fun _ h9 => h9) rfl hin rfl (by decide +kernel) rfl rfl (Nat.le_of_ble_eq_true rfl) dX9_init_29 ?_
  clear hP hD hS
  intro H locs hP hD hS
  replace hP : va_P (dC, dI) vwCl [(h0, .inr (9, [.int 0, .ref q_1, .ref q_3, .ref q_5, .ref q_7, .int 0, .null, .null, .null])), zVi q_1 a_2 4 (fun _ => 0), zVi q_3 a_4 4 (fun _ => 0), zVi q_5 a_6 4 (fun _ => 0), zVi q_7 a_8 4 (fun _ => 0)] H := hP
  replace hD := zDW hD hP rfl
  refine lv_aload_n hx hb dX9_init_32 rfl (lv_at hl 0 rfl) ?_
  refine va_new (ci := 4) (fs := [.int 0, .int 0, .null, .null, .null, .null, .null, .null, .null, .null]) (C := RX4) (T := TX4) (N := 10) hx hb hts zn_X9_init_X4 tyX4 tyX4_ok hown (hts (.classLink RX9 24 RX4) zw_X9_init_55) (hts (.instantiable RX4 10) zw_X9_init_56) (hts (.initialized RX4) zw_X9_init_57) hK hP hD hS hA rfl zd_X4 (Nat.le_of_ble_eq_true rfl) (Nat.le_of_ble_eq_true rfl) dX9_init_33 (fun q_9 H hP hD hS => ?_)
  replace hP : va_P (dC, dI) vwCl [(h0, .inr (9, [.int 0, .ref q_1, .ref q_3, .ref q_5, .ref q_7, .int 0, .null, .null, .null])), zVi q_1 a_2 4 (fun _ => 0), zVi q_3 a_4 4 (fun _ => 0), zVi q_5 a_6 4 (fun _ => 0), zVi q_7 a_8 4 (fun _ => 0), (q_9, .inr (4, [.int 0, .int 0, .null, .null, .null, .null, .null, .null, .null, .null]))] H := hP
  replace hD := zDW hD hP rfl
  refine W.widen (k := 5) (n := 26) (Nat.le_of_ble_eq_true rfl) (Nat.le_of_ble_eq_true rfl) ?_
  refine lv_dup hx hb dX9_init_36 rfl ?_
  replace hPc := hP.sub (ws' := [(q_9, .inr (4, [.int 0, .int 0, .null, .null, .null, .null, .null, .null, .null, .null]))]) [5] rfl
  replace hDc := hD.sub (ws' := [(q_9, .inr (4, [.int 0, .int 0, .null, .null, .null, .null, .null, .null, .null, .null]))]) [5] (by decide) rfl
  replace hKc := hK.sub (tys' := []) [] rfl
  replace hFc := va_free (wc := [(q_9, .inr (4, [.int 0, .int 0, .null, .null, .null, .null, .null, .null, .null, .null]))]) hD hS hA [5] rfl
  refine va_callv (va_runIN (As := []) (rest := [.ref q_9, .ref h0]) ⟨hx, hb, hml, hown, hts⟩ (zc9_X4_init l dC dI q_9 H.size) ⟨va_cnB (host := RX11) 0 hts gX9_init_X4_init_n26 rfl rfl rfl hn0 (hts (.initialized RX4) zw_X9_init_57) (by decide +kernel) ⟨Nat.le_of_ble_eq_true rfl, Nat.le_of_ble_eq_true rfl⟩, rfl, (hts (.instanceMethod yX4_init) zw_X9_init_71)⟩ ⟨fun a U g mk q => by obtain ⟨q0, q1, qP, qK, qD⟩ := q; exact ⟨q0, q1, qP, va_K.moved (u := U) (U := U.calling g mk a) (Vm.Alike.refl U.vm) qK, qD⟩, fun U hU hW => ⟨rfl, by rw [hU], by rw [hU]; exact hPc, va_K.moved hW.alike hKc, hDc.weaken (fun _ _ _ _ => trivial)⟩⟩ rfl rfl hl.1 rfl (lv_room (Nat.le_of_ble_eq_true rfl)) dX9_init_37 ⟨Nat.le_of_ble_eq_true rfl, Nat.le_of_ble_eq_true rfl⟩) hS (fun q _ h => hFc q h) hFc (fun u_11 t H1 locs ht hvm hw_12 hB hz1 hk1 hS => ?_)
  obtain ⟨hP1, hK1, hD1⟩ := hB
  rw [ht] at hP1
  replace hK1 := va_K.moved hvm.symm hK1
  obtain ⟨hP, hD⟩ := va_join (wr := [(h0, .inr (9, [.int 0, .ref q_1, .ref q_3, .ref q_5, .ref q_7, .int 0, .null, .null, .null])), zVi q_1 a_2 4 (fun _ => 0), zVi q_3 a_4 4 (fun _ => 0), zVi q_5 a_6 4 (fun _ => 0), zVi q_7 a_8 4 (fun _ => 0)]) (w1 := [zV4 q_9 0 0 (u_11.1 0) (u_11.1 1) (u_11.1 2) (u_11.1 3) (u_11.1 4) (u_11.1 5) (u_11.1 6) (u_11.1 7), zVi (u_11.1 0) (u_11.1 8) 14 (fun _ => 0), zVi (u_11.1 1) (u_11.1 9) 14 (fun _ => 0), zVi (u_11.1 2) (u_11.1 10) 14 (fun _ => 0), zVi (u_11.1 3) (u_11.1 11) 14 (fun _ => 0), zVi (u_11.1 4) (u_11.1 12) 14 (fun _ => 0), zVi (u_11.1 5) (u_11.1 13) 14 (fun _ => 0), zVi (u_11.1 6) (u_11.1 14) 28 (fun _ => 0), zVi (u_11.1 7) (u_11.1 15) 28 (fun _ => 0)]) hP hD [5] [0, 1, 2, 3, 4] rfl rfl (by decide) (by decide) hk1 hFc hP1 hD1
  replace hK := hK.app hK1
  generalize H1 = H at hP hS ⊢
  replace hP : va_P (dC, dI) vwCl [(h0, .inr (9, [.int 0, .ref q_1, .ref q_3, .ref q_5, .ref q_7, .int 0, .null, .null, .null])), zVi q_1 a_2 4 (fun _ => 0), zVi q_3 a_4 4 (fun _ => 0), zVi q_5 a_6 4 (fun _ => 0), zVi q_7 a_8 4 (fun _ => 0), zV4 q_9 0 0 (u_11.1 0) (u_11.1 1) (u_11.1 2) (u_11.1 3) (u_11.1 4) (u_11.1 5) (u_11.1 6) (u_11.1 7), zVi (u_11.1 0) (u_11.1 8) 14 (fun _ => 0), zVi (u_11.1 1) (u_11.1 9) 14 (fun _ => 0), zVi (u_11.1 2) (u_11.1 10) 14 (fun _ => 0), zVi (u_11.1 3) (u_11.1 11) 14 (fun _ => 0), zVi (u_11.1 4) (u_11.1 12) 14 (fun _ => 0), zVi (u_11.1 5) (u_11.1 13) 14 (fun _ => 0), zVi (u_11.1 6) (u_11.1 14) 28 (fun _ => 0), zVi (u_11.1 7) (u_11.1 15) 28 (fun _ => 0)] H := hP
  replace hD := zDW hD hP rfl
  replace hK : va_K (dC, dI) vwCl [(a_2, .int), (a_4, .int), (a_6, .int), (a_8, .int), ((u_11.1 8), .int), ((u_11.1 9), .int), ((u_11.1 10), .int), ((u_11.1 11), .int), ((u_11.1 12), .int), ((u_11.1 13), .int), ((u_11.1 14), .int), ((u_11.1 15), .int)] s := hK
  refine W.widen (k := 13) (n := 166) (Nat.le_of_ble_eq_true rfl) (Nat.le_of_ble_eq_true rfl) ?_
  refine va_putF (D := (dC, dI)) (ci := 9) (v := .ref q_9) (ty := .object "ShortEnough$Numbers") (C := RX9) (T := TX9) (N := 9) hx hb hts zn_X9_init_X9 tyX9 tyX9_ok nmX9 hown hK hP hD hS 0 rfl rfl 6 (by decide) (hts (.fieldLink RX9 27 "ShortEnough$Task" "numbers" "LShortEnough$Numbers;") zw_X9_init_72) (fun _ h9 => h9) rfl hin rfl (by decide +kernel) rfl rfl (Nat.le_of_ble_eq_true rfl) dX9_init_40 ?_
  clear hP hD hS
  intro H locs hP hD hS
  replace hP : va_P (dC, dI) vwCl [(h0, .inr (9, [.int 0, .ref q_1, .ref q_3, .ref q_5, .ref q_7, .int 0, .ref q_9, .null, .null])), zVi q_1 a_2 4 (fun _ => 0), zVi q_3 a_4 4 (fun _ => 0), zVi q_5 a_6 4 (fun _ => 0), zVi q_7 a_8 4 (fun _ => 0), zV4 q_9 0 0 (u_11.1 0) (u_11.1 1) (u_11.1 2) (u_11.1 3) (u_11.1 4) (u_11.1 5) (u_11.1 6) (u_11.1 7), zVi (u_11.1 0) (u_11.1 8) 14 (fun _ => 0), zVi (u_11.1 1) (u_11.1 9) 14 (fun _ => 0), zVi (u_11.1 2) (u_11.1 10) 14 (fun _ => 0), zVi (u_11.1 3) (u_11.1 11) 14 (fun _ => 0), zVi (u_11.1 4) (u_11.1 12) 14 (fun _ => 0), zVi (u_11.1 5) (u_11.1 13) 14 (fun _ => 0), zVi (u_11.1 6) (u_11.1 14) 28 (fun _ => 0), zVi (u_11.1 7) (u_11.1 15) 28 (fun _ => 0)] H := hP
  replace hD := zDW hD hP rfl
  refine lv_aload_n hx hb dX9_init_43 rfl (lv_at hl 0 rfl) ?_
  refine va_new (ci := 2) (fs := [.int 0, .int 0, .int 0, .null, .null, .null]) (C := RX2) (T := TX2) (N := 6) hx hb hts zn_X9_init_X2 tyX2 tyX2_ok hown (hts (.classLink RX9 31 RX2) zw_X9_init_74) (hts (.instantiable RX2 6) zw_X9_init_75) (hts (.initialized RX2) zw_X9_init_76) hK hP hD hS hA rfl zd_X2 (Nat.le_of_ble_eq_true rfl) (Nat.le_of_ble_eq_true rfl) dX9_init_44 (fun q_13 H hP hD hS => ?_)
  replace hP : va_P (dC, dI) vwCl [(h0, .inr (9, [.int 0, .ref q_1, .ref q_3, .ref q_5, .ref q_7, .int 0, .ref q_9, .null, .null])), zVi q_1 a_2 4 (fun _ => 0), zVi q_3 a_4 4 (fun _ => 0), zVi q_5 a_6 4 (fun _ => 0), zVi q_7 a_8 4 (fun _ => 0), zV4 q_9 0 0 (u_11.1 0) (u_11.1 1) (u_11.1 2) (u_11.1 3) (u_11.1 4) (u_11.1 5) (u_11.1 6) (u_11.1 7), zVi (u_11.1 0) (u_11.1 8) 14 (fun _ => 0), zVi (u_11.1 1) (u_11.1 9) 14 (fun _ => 0), zVi (u_11.1 2) (u_11.1 10) 14 (fun _ => 0), zVi (u_11.1 3) (u_11.1 11) 14 (fun _ => 0), zVi (u_11.1 4) (u_11.1 12) 14 (fun _ => 0), zVi (u_11.1 5) (u_11.1 13) 14 (fun _ => 0), zVi (u_11.1 6) (u_11.1 14) 28 (fun _ => 0), zVi (u_11.1 7) (u_11.1 15) 28 (fun _ => 0), (q_13, .inr (2, [.int 0, .int 0, .int 0, .null, .null, .null]))] H := hP
  replace hD := zDW hD hP rfl
  refine W.widen (k := 14) (n := 172) (Nat.le_of_ble_eq_true rfl) (Nat.le_of_ble_eq_true rfl) ?_
  refine lv_dup hx hb dX9_init_47 rfl ?_
  replace hPc := hP.sub (ws' := [(q_13, .inr (2, [.int 0, .int 0, .int 0, .null, .null, .null]))]) [14] rfl
  replace hDc := hD.sub (ws' := [(q_13, .inr (2, [.int 0, .int 0, .int 0, .null, .null, .null]))]) [14] (by decide) rfl
  replace hKc := hK.sub (tys' := []) [] rfl
  replace hFc := va_free (wc := [(q_13, .inr (2, [.int 0, .int 0, .int 0, .null, .null, .null]))]) hD hS hA [14] rfl
  refine va_callv (va_runIN (As := []) (rest := [.ref q_13, .ref h0]) ⟨hx, hb, hml, hown, hts⟩ (zc10_X2_init l dC dI q_13 H.size) ⟨va_cnB (host := RX11) 0 hts gX9_init_X2_init_n33 rfl rfl rfl hn1 (hts (.initialized RX2) zw_X9_init_76) (by decide +kernel) ⟨Nat.le_of_ble_eq_true rfl, Nat.le_of_ble_eq_true rfl⟩, rfl, (hts (.instanceMethod yX2_init) zw_X9_init_85)⟩ ⟨fun a U g mk q => by obtain ⟨q0, q1, qP, qK, qD⟩ := q; exact ⟨q0, q1, qP, va_K.moved (u := U) (U := U.calling g mk a) (Vm.Alike.refl U.vm) qK, qD⟩, fun U hU hW => ⟨rfl, by rw [hU], by rw [hU]; exact hPc, va_K.moved hW.alike hKc, hDc.weaken (fun _ _ _ _ => trivial)⟩⟩ rfl rfl hl.1 rfl (lv_room (Nat.le_of_ble_eq_true rfl)) dX9_init_48 ⟨Nat.le_of_ble_eq_true rfl, Nat.le_of_ble_eq_true rfl⟩) hS (fun q _ h => hFc q h) hFc (fun u_15 t H1 locs ht hvm hw_16 hB hz1 hk1 hS => ?_)
  obtain ⟨hP1, hK1, hD1⟩ := hB
  rw [ht] at hP1
  replace hK1 := va_K.moved hvm.symm hK1
  obtain ⟨hP, hD⟩ := va_join (wr := [(h0, .inr (9, [.int 0, .ref q_1, .ref q_3, .ref q_5, .ref q_7, .int 0, .ref q_9, .null, .null])), zVi q_1 a_2 4 (fun _ => 0), zVi q_3 a_4 4 (fun _ => 0), zVi q_5 a_6 4 (fun _ => 0), zVi q_7 a_8 4 (fun _ => 0), zV4 q_9 0 0 (u_11.1 0) (u_11.1 1) (u_11.1 2) (u_11.1 3) (u_11.1 4) (u_11.1 5) (u_11.1 6) (u_11.1 7), zVi (u_11.1 0) (u_11.1 8) 14 (fun _ => 0), zVi (u_11.1 1) (u_11.1 9) 14 (fun _ => 0), zVi (u_11.1 2) (u_11.1 10) 14 (fun _ => 0), zVi (u_11.1 3) (u_11.1 11) 14 (fun _ => 0), zVi (u_11.1 4) (u_11.1 12) 14 (fun _ => 0), zVi (u_11.1 5) (u_11.1 13) 14 (fun _ => 0), zVi (u_11.1 6) (u_11.1 14) 28 (fun _ => 0), zVi (u_11.1 7) (u_11.1 15) 28 (fun _ => 0)]) (w1 := [zV2 q_13 0 0 0 (u_15.1 0) (u_15.1 1) (u_15.1 2), zVi (u_15.1 0) (u_15.1 3) 14 (fun _ => 0), zVi (u_15.1 1) (u_15.1 4) 14 (fun _ => 0), zVi (u_15.1 2) (u_15.1 5) 14 (fun _ => 0)]) hP hD [14] [0, 1, 2, 3, 4, 5, 6, 7, 8, 9, 10, 11, 12, 13] rfl rfl (by decide) (by decide) hk1 hFc hP1 hD1
  replace hK := hK.app hK1
  generalize H1 = H at hP hS ⊢
  replace hP : va_P (dC, dI) vwCl [(h0, .inr (9, [.int 0, .ref q_1, .ref q_3, .ref q_5, .ref q_7, .int 0, .ref q_9, .null, .null])), zVi q_1 a_2 4 (fun _ => 0), zVi q_3 a_4 4 (fun _ => 0), zVi q_5 a_6 4 (fun _ => 0), zVi q_7 a_8 4 (fun _ => 0), zV4 q_9 0 0 (u_11.1 0) (u_11.1 1) (u_11.1 2) (u_11.1 3) (u_11.1 4) (u_11.1 5) (u_11.1 6) (u_11.1 7), zVi (u_11.1 0) (u_11.1 8) 14 (fun _ => 0), zVi (u_11.1 1) (u_11.1 9) 14 (fun _ => 0), zVi (u_11.1 2) (u_11.1 10) 14 (fun _ => 0), zVi (u_11.1 3) (u_11.1 11) 14 (fun _ => 0), zVi (u_11.1 4) (u_11.1 12) 14 (fun _ => 0), zVi (u_11.1 5) (u_11.1 13) 14 (fun _ => 0), zVi (u_11.1 6) (u_11.1 14) 28 (fun _ => 0), zVi (u_11.1 7) (u_11.1 15) 28 (fun _ => 0), zV2 q_13 0 0 0 (u_15.1 0) (u_15.1 1) (u_15.1 2), zVi (u_15.1 0) (u_15.1 3) 14 (fun _ => 0), zVi (u_15.1 1) (u_15.1 4) 14 (fun _ => 0), zVi (u_15.1 2) (u_15.1 5) 14 (fun _ => 0)] H := hP
  replace hD := zDW hD hP rfl
  replace hK : va_K (dC, dI) vwCl [(a_2, .int), (a_4, .int), (a_6, .int), (a_8, .int), ((u_11.1 8), .int), ((u_11.1 9), .int), ((u_11.1 10), .int), ((u_11.1 11), .int), ((u_11.1 12), .int), ((u_11.1 13), .int), ((u_11.1 14), .int), ((u_11.1 15), .int), ((u_15.1 3), .int), ((u_15.1 4), .int), ((u_15.1 5), .int)] s := hK
  refine W.widen (k := 17) (n := 214) (Nat.le_of_ble_eq_true rfl) (Nat.le_of_ble_eq_true rfl) ?_
  refine va_putF (D := (dC, dI)) (ci := 9) (v := .ref q_13) (ty := .object "ShortEnough$Groups") (C := RX9) (T := TX9) (N := 9) hx hb hts zn_X9_init_X9 tyX9 tyX9_ok nmX9 hown hK hP hD hS 0 rfl rfl 7 (by decide) (hts (.fieldLink RX9 34 "ShortEnough$Task" "groups" "LShortEnough$Groups;") zw_X9_init_86) (fun _ h9 => h9) rfl hin rfl (by decide +kernel) rfl rfl (Nat.le_of_ble_eq_true rfl) dX9_init_51 ?_
  clear hP hD hS
  intro H locs hP hD hS
  replace hP : va_P (dC, dI) vwCl [(h0, .inr (9, [.int 0, .ref q_1, .ref q_3, .ref q_5, .ref q_7, .int 0, .ref q_9, .ref q_13, .null])), zVi q_1 a_2 4 (fun _ => 0), zVi q_3 a_4 4 (fun _ => 0), zVi q_5 a_6 4 (fun _ => 0), zVi q_7 a_8 4 (fun _ => 0), zV4 q_9 0 0 (u_11.1 0) (u_11.1 1) (u_11.1 2) (u_11.1 3) (u_11.1 4) (u_11.1 5) (u_11.1 6) (u_11.1 7), zVi (u_11.1 0) (u_11.1 8) 14 (fun _ => 0), zVi (u_11.1 1) (u_11.1 9) 14 (fun _ => 0), zVi (u_11.1 2) (u_11.1 10) 14 (fun _ => 0), zVi (u_11.1 3) (u_11.1 11) 14 (fun _ => 0), zVi (u_11.1 4) (u_11.1 12) 14 (fun _ => 0), zVi (u_11.1 5) (u_11.1 13) 14 (fun _ => 0), zVi (u_11.1 6) (u_11.1 14) 28 (fun _ => 0), zVi (u_11.1 7) (u_11.1 15) 28 (fun _ => 0), zV2 q_13 0 0 0 (u_15.1 0) (u_15.1 1) (u_15.1 2), zVi (u_15.1 0) (u_15.1 3) 14 (fun _ => 0), zVi (u_15.1 1) (u_15.1 4) 14 (fun _ => 0), zVi (u_15.1 2) (u_15.1 5) 14 (fun _ => 0)] H := hP
  replace hD := zDW hD hP rfl
  refine lv_aload_n hx hb dX9_init_54 rfl (lv_at hl 0 rfl) ?_
  refine va_new (ci := 6) (fs := [.null, .null, .null]) (C := RX6) (T := TX6) (N := 3) hx hb hts zn_X9_init_X6 tyX6 tyX6_ok hown (hts (.classLink RX9 38 RX6) zw_X9_init_88) (hts (.instantiable RX6 3) zw_X9_init_89) (hts (.initialized RX6) zw_X9_init_90) hK hP hD hS hA rfl zd_X6 (Nat.le_of_ble_eq_true rfl) (Nat.le_of_ble_eq_true rfl) dX9_init_55 (fun q_17 H hP hD hS => ?_)
  replace hP : va_P (dC, dI) vwCl [(h0, .inr (9, [.int 0, .ref q_1, .ref q_3, .ref q_5, .ref q_7, .int 0, .ref q_9, .ref q_13, .null])), zVi q_1 a_2 4 (fun _ => 0), zVi q_3 a_4 4 (fun _ => 0), zVi q_5 a_6 4 (fun _ => 0), zVi q_7 a_8 4 (fun _ => 0), zV4 q_9 0 0 (u_11.1 0) (u_11.1 1) (u_11.1 2) (u_11.1 3) (u_11.1 4) (u_11.1 5) (u_11.1 6) (u_11.1 7), zVi (u_11.1 0) (u_11.1 8) 14 (fun _ => 0), zVi (u_11.1 1) (u_11.1 9) 14 (fun _ => 0), zVi (u_11.1 2) (u_11.1 10) 14 (fun _ => 0), zVi (u_11.1 3) (u_11.1 11) 14 (fun _ => 0), zVi (u_11.1 4) (u_11.1 12) 14 (fun _ => 0), zVi (u_11.1 5) (u_11.1 13) 14 (fun _ => 0), zVi (u_11.1 6) (u_11.1 14) 28 (fun _ => 0), zVi (u_11.1 7) (u_11.1 15) 28 (fun _ => 0), zV2 q_13 0 0 0 (u_15.1 0) (u_15.1 1) (u_15.1 2), zVi (u_15.1 0) (u_15.1 3) 14 (fun _ => 0), zVi (u_15.1 1) (u_15.1 4) 14 (fun _ => 0), zVi (u_15.1 2) (u_15.1 5) 14 (fun _ => 0), (q_17, .inr (6, [.null, .null, .null]))] H := hP
  replace hD := zDW hD hP rfl
  refine W.widen (k := 18) (n := 217) (Nat.le_of_ble_eq_true rfl) (Nat.le_of_ble_eq_true rfl) ?_
  refine lv_dup hx hb dX9_init_58 rfl ?_
  replace hPc := hP.sub (ws' := [(q_17, .inr (6, [.null, .null, .null]))]) [18] rfl
  replace hDc := hD.sub (ws' := [(q_17, .inr (6, [.null, .null, .null]))]) [18] (by decide) rfl
  replace hKc := hK.sub (tys' := []) [] rfl
  replace hFc := va_free (wc := [(q_17, .inr (6, [.null, .null, .null]))]) hD hS hA [18] rfl
  refine va_callv (va_runIN (As := []) (rest := [.ref q_17, .ref h0]) ⟨hx, hb, hml, hown, hts⟩ (zc11_X6_init l dC dI q_17 H.size) ⟨va_cnB (host := RX11) 0 hts gX9_init_X6_init_n40 rfl rfl rfl hn2 (hts (.initialized RX6) zw_X9_init_90) (by decide +kernel) ⟨Nat.le_of_ble_eq_true rfl, Nat.le_of_ble_eq_true rfl⟩, rfl, (hts (.instanceMethod yX6_init) zw_X9_init_100)⟩ ⟨fun a U g mk q => by obtain ⟨q0, q1, qP, qK, qD⟩ := q; exact ⟨q0, q1, qP, va_K.moved (u := U) (U := U.calling g mk a) (Vm.Alike.refl U.vm) qK, qD⟩, fun U hU hW => ⟨rfl, by rw [hU], by rw [hU]; exact hPc, va_K.moved hW.alike hKc, hDc.weaken (fun _ _ _ _ => trivial)⟩⟩ rfl rfl hl.1 rfl (lv_room (Nat.le_of_ble_eq_true rfl)) dX9_init_59 ⟨Nat.le_of_ble_eq_true rfl, Nat.le_of_ble_eq_true rfl⟩) hS (fun q _ h => hFc q h) hFc (fun u_19 t H1 locs ht hvm hw_20 hB hz1 hk1 hS => ?_)
  obtain ⟨hP1, hK1, hD1⟩ := hB
  rw [ht] at hP1
  replace hK1 := va_K.moved hvm.symm hK1
  obtain ⟨hP, hD⟩ := va_join (wr := [(h0, .inr (9, [.int 0, .ref q_1, .ref q_3, .ref q_5, .ref q_7, .int 0, .ref q_9, .ref q_13, .null])), zVi q_1 a_2 4 (fun _ => 0), zVi q_3 a_4 4 (fun _ => 0), zVi q_5 a_6 4 (fun _ => 0), zVi q_7 a_8 4 (fun _ => 0), zV4 q_9 0 0 (u_11.1 0) (u_11.1 1) (u_11.1 2) (u_11.1 3) (u_11.1 4) (u_11.1 5) (u_11.1 6) (u_11.1 7), zVi (u_11.1 0) (u_11.1 8) 14 (fun _ => 0), zVi (u_11.1 1) (u_11.1 9) 14 (fun _ => 0), zVi (u_11.1 2) (u_11.1 10) 14 (fun _ => 0), zVi (u_11.1 3) (u_11.1 11) 14 (fun _ => 0), zVi (u_11.1 4) (u_11.1 12) 14 (fun _ => 0), zVi (u_11.1 5) (u_11.1 13) 14 (fun _ => 0), zVi (u_11.1 6) (u_11.1 14) 28 (fun _ => 0), zVi (u_11.1 7) (u_11.1 15) 28 (fun _ => 0), zV2 q_13 0 0 0 (u_15.1 0) (u_15.1 1) (u_15.1 2), zVi (u_15.1 0) (u_15.1 3) 14 (fun _ => 0), zVi (u_15.1 1) (u_15.1 4) 14 (fun _ => 0), zVi (u_15.1 2) (u_15.1 5) 14 (fun _ => 0)]) (w1 := [zV6 q_17 (u_19.1 0) (u_19.1 1) (u_19.1 2), zVl (u_19.1 0) (u_19.1 3) 14 (fun _ => 0), zVl (u_19.1 1) (u_19.1 4) 14 (fun _ => 0), zVi (u_19.1 2) (u_19.1 5) 14 (fun _ => 0)]) hP hD [18] [0, 1, 2, 3, 4, 5, 6, 7, 8, 9, 10, 11, 12, 13, 14, 15, 16, 17] rfl rfl (by decide) (by decide) hk1 hFc hP1 hD1
  replace hK := hK.app hK1
  generalize H1 = H at hP hS ⊢
  replace hP : va_P (dC, dI) vwCl [(h0, .inr (9, [.int 0, .ref q_1, .ref q_3, .ref q_5, .ref q_7, .int 0, .ref q_9, .ref q_13, .null])), zVi q_1 a_2 4 (fun _ => 0), zVi q_3 a_4 4 (fun _ => 0), zVi q_5 a_6 4 (fun _ => 0), zVi q_7 a_8 4 (fun _ => 0), zV4 q_9 0 0 (u_11.1 0) (u_11.1 1) (u_11.1 2) (u_11.1 3) (u_11.1 4) (u_11.1 5) (u_11.1 6) (u_11.1 7), zVi (u_11.1 0) (u_11.1 8) 14 (fun _ => 0), zVi (u_11.1 1) (u_11.1 9) 14 (fun _ => 0), zVi (u_11.1 2) (u_11.1 10) 14 (fun _ => 0), zVi (u_11.1 3) (u_11.1 11) 14 (fun _ => 0), zVi (u_11.1 4) (u_11.1 12) 14 (fun _ => 0), zVi (u_11.1 5) (u_11.1 13) 14 (fun _ => 0), zVi (u_11.1 6) (u_11.1 14) 28 (fun _ => 0), zVi (u_11.1 7) (u_11.1 15) 28 (fun _ => 0), zV2 q_13 0 0 0 (u_15.1 0) (u_15.1 1) (u_15.1 2), zVi (u_15.1 0) (u_15.1 3) 14 (fun _ => 0), zVi (u_15.1 1) (u_15.1 4) 14 (fun _ => 0), zVi (u_15.1 2) (u_15.1 5) 14 (fun _ => 0), zV6 q_17 (u_19.1 0) (u_19.1 1) (u_19.1 2), zVl (u_19.1 0) (u_19.1 3) 14 (fun _ => 0), zVl (u_19.1 1) (u_19.1 4) 14 (fun _ => 0), zVi (u_19.1 2) (u_19.1 5) 14 (fun _ => 0)] H := hP
  replace hD := zDW hD hP rfl
  replace hK : va_K (dC, dI) vwCl [(a_2, .int), (a_4, .int), (a_6, .int), (a_8, .int), ((u_11.1 8), .int), ((u_11.1 9), .int), ((u_11.1 10), .int), ((u_11.1 11), .int), ((u_11.1 12), .int), ((u_11.1 13), .int), ((u_11.1 14), .int), ((u_11.1 15), .int), ((u_15.1 3), .int), ((u_15.1 4), .int), ((u_15.1 5), .int), ((u_19.1 3), .long), ((u_19.1 4), .long), ((u_19.1 5), .boolean)] s := hK
  refine W.widen (k := 21) (n := 259) (Nat.le_of_ble_eq_true rfl) (Nat.le_of_ble_eq_true rfl) ?_
  refine va_putF (D := (dC, dI)) (ci := 9) (v := .ref q_17) (ty := .object "ShortEnough$Ranges") (C := RX9) (T := TX9) (N := 9) hx hb hts zn_X9_init_X9 tyX9 tyX9_ok nmX9 hown hK hP hD hS 0 rfl rfl 8 (by decide) (hts (.fieldLink RX9 41 "ShortEnough$Task" "ranges" "LShortEnough$Ranges;") zw_X9_init_101) (fun _ h9 => h9) rfl hin rfl (by decide +kernel) rfl rfl (Nat.le_of_ble_eq_true rfl) dX9_init_62 ?_
  clear hP hD hS
  intro H locs hP hD hS
  replace hP : va_P (dC, dI) vwCl [zV9 h0 0 q_1 q_3 q_5 q_7 0 q_9 q_13 q_17, zVi q_1 a_2 4 (fun _ => 0), zVi q_3 a_4 4 (fun _ => 0), zVi q_5 a_6 4 (fun _ => 0), zVi q_7 a_8 4 (fun _ => 0), zV4 q_9 0 0 (u_11.1 0) (u_11.1 1) (u_11.1 2) (u_11.1 3) (u_11.1 4) (u_11.1 5) (u_11.1 6) (u_11.1 7), zVi (u_11.1 0) (u_11.1 8) 14 (fun _ => 0), zVi (u_11.1 1) (u_11.1 9) 14 (fun _ => 0), zVi (u_11.1 2) (u_11.1 10) 14 (fun _ => 0), zVi (u_11.1 3) (u_11.1 11) 14 (fun _ => 0), zVi (u_11.1 4) (u_11.1 12) 14 (fun _ => 0), zVi (u_11.1 5) (u_11.1 13) 14 (fun _ => 0), zVi (u_11.1 6) (u_11.1 14) 28 (fun _ => 0), zVi (u_11.1 7) (u_11.1 15) 28 (fun _ => 0), zV2 q_13 0 0 0 (u_15.1 0) (u_15.1 1) (u_15.1 2), zVi (u_15.1 0) (u_15.1 3) 14 (fun _ => 0), zVi (u_15.1 1) (u_15.1 4) 14 (fun _ => 0), zVi (u_15.1 2) (u_15.1 5) 14 (fun _ => 0), zV6 q_17 (u_19.1 0) (u_19.1 1) (u_19.1 2), zVl (u_19.1 0) (u_19.1 3) 14 (fun _ => 0), zVl (u_19.1 1) (u_19.1 4) 14 (fun _ => 0), zVi (u_19.1 2) (u_19.1 5) 14 (fun _ => 0)] H := hP
  replace hD := zDW hD hP rfl
  have hP9 := hP.sub (ws' := [zV9 h0 0 q_1 q_3 q_5 q_7 0 q_9 q_13 q_17, zVi q_1 a_2 4 (fun _ => 0), zVi q_3 a_4 4 (fun _ => 0), zVi q_5 a_6 4 (fun _ => 0), zVi q_7 a_8 4 (fun _ => 0), zV4 q_9 0 0 (u_11.1 0) (u_11.1 1) (u_11.1 2) (u_11.1 3) (u_11.1 4) (u_11.1 5) (u_11.1 6) (u_11.1 7), zVi (u_11.1 0) (u_11.1 8) 14 (fun _ => 0), zVi (u_11.1 1) (u_11.1 9) 14 (fun _ => 0), zVi (u_11.1 2) (u_11.1 10) 14 (fun _ => 0), zVi (u_11.1 3) (u_11.1 11) 14 (fun _ => 0), zVi (u_11.1 4) (u_11.1 12) 14 (fun _ => 0), zVi (u_11.1 5) (u_11.1 13) 14 (fun _ => 0), zVi (u_11.1 6) (u_11.1 14) 28 (fun _ => 0), zVi (u_11.1 7) (u_11.1 15) 28 (fun _ => 0), zV2 q_13 0 0 0 (u_15.1 0) (u_15.1 1) (u_15.1 2), zVi (u_15.1 0) (u_15.1 3) 14 (fun _ => 0), zVi (u_15.1 1) (u_15.1 4) 14 (fun _ => 0), zVi (u_15.1 2) (u_15.1 5) 14 (fun _ => 0), zV6 q_17 (u_19.1 0) (u_19.1 1) (u_19.1 2), zVl (u_19.1 0) (u_19.1 3) 14 (fun _ => 0), zVl (u_19.1 1) (u_19.1 4) 14 (fun _ => 0), zVi (u_19.1 2) (u_19.1 5) 14 (fun _ => 0)]) [0, 1, 2, 3, 4, 5, 6, 7, 8, 9, 10, 11, 12, 13, 14, 15, 16, 17, 18, 19, 20, 21] rfl
  have hD9 := hD.sub (ws' := [zV9 h0 0 q_1 q_3 q_5 q_7 0 q_9 q_13 q_17, zVi q_1 a_2 4 (fun _ => 0), zVi q_3 a_4 4 (fun _ => 0), zVi q_5 a_6 4 (fun _ => 0), zVi q_7 a_8 4 (fun _ => 0), zV4 q_9 0 0 (u_11.1 0) (u_11.1 1) (u_11.1 2) (u_11.1 3) (u_11.1 4) (u_11.1 5) (u_11.1 6) (u_11.1 7), zVi (u_11.1 0) (u_11.1 8) 14 (fun _ => 0), zVi (u_11.1 1) (u_11.1 9) 14 (fun _ => 0), zVi (u_11.1 2) (u_11.1 10) 14 (fun _ => 0), zVi (u_11.1 3) (u_11.1 11) 14 (fun _ => 0), zVi (u_11.1 4) (u_11.1 12) 14 (fun _ => 0), zVi (u_11.1 5) (u_11.1 13) 14 (fun _ => 0), zVi (u_11.1 6) (u_11.1 14) 28 (fun _ => 0), zVi (u_11.1 7) (u_11.1 15) 28 (fun _ => 0), zV2 q_13 0 0 0 (u_15.1 0) (u_15.1 1) (u_15.1 2), zVi (u_15.1 0) (u_15.1 3) 14 (fun _ => 0), zVi (u_15.1 1) (u_15.1 4) 14 (fun _ => 0), zVi (u_15.1 2) (u_15.1 5) 14 (fun _ => 0), zV6 q_17 (u_19.1 0) (u_19.1 1) (u_19.1 2), zVl (u_19.1 0) (u_19.1 3) 14 (fun _ => 0), zVl (u_19.1 1) (u_19.1 4) 14 (fun _ => 0), zVi (u_19.1 2) (u_19.1 5) 14 (fun _ => 0)]) [0, 1, 2, 3, 4, 5, 6, 7, 8, 9, 10, 11, 12, 13, 14, 15, 16, 17, 18, 19, 20, 21] (by decide) rfl
  have hK9 := hK.sub (tys' := [(a_2, .int), (a_4, .int), (a_6, .int), (a_8, .int), ((u_11.1 8), .int), ((u_11.1 9), .int), ((u_11.1 10), .int), ((u_11.1 11), .int), ((u_11.1 12), .int), ((u_11.1 13), .int), ((u_11.1 14), .int), ((u_11.1 15), .int), ((u_15.1 3), .int), ((u_15.1 4), .int), ((u_15.1 5), .int), ((u_19.1 3), .long), ((u_19.1 4), .long), ((u_19.1 5), .boolean)]) [0, 1, 2, 3, 4, 5, 6, 7, 8, 9, 10, 11, 12, 13, 14, 15, 16, 17] rfl
  refine W.widen (k := 21) (n := 259) (Nat.le_of_ble_eq_true rfl) (Nat.le_of_ble_eq_true rfl) ?_
  exact W.vret hx hb hr (fun t ht hW => ⟨⟨((fun k => ([q_1, q_3, q_5, q_7, q_9, q_13, q_17, a_2, a_4, a_6, a_8, (u_11.1 0), (u_11.1 1), (u_11.1 2), (u_11.1 3), (u_11.1 4), (u_11.1 5), (u_11.1 6), (u_11.1 7), (u_11.1 8), (u_11.1 9), (u_11.1 10), (u_11.1 11), (u_11.1 12), (u_11.1 13), (u_11.1 14), (u_11.1 15), (u_15.1 0), (u_15.1 1), (u_15.1 2), (u_15.1 3), (u_15.1 4), (u_15.1 5), (u_19.1 0), (u_19.1 1), (u_19.1 2), (u_19.1 3), (u_19.1 4), (u_19.1 5)] : List Nat).getD k 0), (fun k => ([] : List (Nat → Int32)).getD k (fun _ => 0))), rfl, trivial, by rw [ht]; exact hP9, va_K.moved hW.alike hK9, hD9⟩, hS.F ht⟩) hS.2.2 dX9_init_65
set_option maxHeartbeats 4000000 in
set_option maxRecDepth 100000 in
theorem zc13_X7_init (l : Launch) (dC : Nat → ClassId) (dI : Nat → Nat → Nat) (h0 : Nat) (sz : Nat) : Met l yX7_init wsX7_init ({ frames := 1, cells := 1, slots := 14, locals := 20 }) (va_Pc [.ref h0] (fun U => U.heap.size = sz ∧ va_P (dC, dI) vwCl [(h0, .inr (7, [.null, .int 0, .int 0]))] U.heap ∧ va_K (dC, dI) vwCl [] U ∧ va_D (fun _ => True) [(h0, .inr (7, [.null, .int 0, .int 0]))])) (va_Qv (fun (u : zU) => True) (fun u t => va_P (dC, dI) vwCl [zV7 h0 (u.1 0) 0 0, zVl (u.1 0) (u.1 1) 14 (fun _ => 0)] t.heap ∧ va_K (dC, dI) vwCl [((u.1 1), .long)] t ∧ va_D (va_A [(h0, .inr (7, [.null, .int 0, .int 0]))] sz) [zV7 h0 (u.1 0) 0 0, zVl (u.1 0) (u.1 1) 14 (fun _ => 0)]) (va_A [(h0, .inr (7, [.null, .int 0, .int 0]))] sz)) 1 14 (va_A [(h0, .inr (7, [.null, .int 0, .int 0]))] sz) := by
  refine Met.ofW (cc := cX7_init) (maxL := 1) (ret := none) (by decide +kernel) rfl ?_
  intro p e s m args below meth c s₁ B hml hv
  obtain ⟨rfl, hsz, hP, hK, hD0⟩ := hv
  have hx := B.exec
  have hb := B.bytes
  have hr := B.returns
  have hts := atoms_spec (ws := wsX7_init) B.pre
  have hown : s.vm.findClass RX7 = some m.cls := (findClass_of_methodNamed B.named :)
  have hlocks := B.notSynchronized
  have hin : meth.name = "<init>" := (name_of_methodNamed B.named B.method).1
  subst hsz
  replace hD := hD0.self (sz := s.heap.size)
  generalize hAe : va_A [(h0, .inr (7, [.null, .int 0, .int 0]))] s.heap.size = A at hD ⊢
  have hA : ∀ q : Nat, s.heap.size ≤ q → A q := fun q h => by rw [← hAe]; exact Or.inr h
  have hS : va_S A s.heap s.heap [] := va_S.rf
  replace hP : va_P (dC, dI) vwCl [(h0, .inr (7, [.null, .int 0, .int 0]))] s.heap := hP
  have hl := lv_entry ([.ref h0]) (n := 1) (Nat.le_of_ble_eq_true rfl)
  rw [lg_entry_eq]
  generalize (lg_sl ([.ref h0]) ++ List.replicate (1 - (lg_sl ([.ref h0])).length) Slot.unset).toArray = ls at hl ⊢
  have hl : lv_has ls 1 [(0, .ref h0)] := hl
  refine lv_aload_n hx hb dX7_init_0 rfl (lv_at hl 0 rfl) ?_
  refine W.objInit hx hb hown (hts (.methodLink RX7 3 objectInit) zw_X7_init_111) (hts (.instanceMethod objectInit) zw_X7_init_112) (hts (.code objectInit ⟨#[0xb1]⟩ 1 none) zw_X7_init_113) rfl (by rw [hml]; exact hl.1) rfl dX7_init_1 (Nat.le_of_ble_eq_true rfl) (Nat.le_of_ble_eq_true rfl) ?_
  refine W.eq (g2 := F0 m 4 ls []) rfl ?_
  refine lv_aload_n hx hb dX7_init_4 rfl (lv_at hl 0 rfl) ?_
  refine lv_bipush (v := 14) hx hb dX7_init_5 zcb_14 ?_
  refine va_newa (atype := .long) (ty := .long) (N' := 14) (a0 := (14, .inr (.inl (fun _ => 0)))) hx hb (hts (.arrayClass .long) zw_X7_init_114) rfl hK hP hD hS hA (fun _ => rfl) (by decide +kernel) (by decide +kernel) (Nat.le_of_ble_eq_true rfl) (Nat.le_of_ble_eq_true rfl) (Nat.le_of_ble_eq_true rfl) dX7_init_7 (fun q_1 a_2 H hK hP hD hS => ?_)
  replace hP : va_P (dC, dI) vwCl [(h0, .inr (7, [.null, .int 0, .int 0])), zVl q_1 a_2 14 (fun _ => 0)] H := hP
  replace hD := zDW hD hP rfl
  replace hK : va_K (dC, dI) vwCl [(a_2, .long)] s := hK
  refine W.widen (k := 1) (n := 14) (Nat.le_of_ble_eq_true rfl) (Nat.le_of_ble_eq_true rfl) ?_
  refine va_putF (D := (dC, dI)) (ci := 7) (v := .ref q_1) (ty := .array .long) (C := RX7) (T := TX7) (N := 3) hx hb hts zn_X7_init_X7 tyX7 tyX7_ok nmX7 hown hK hP hD hS 0 rfl rfl 0 (by decide) (hts (.fieldLink RX7 9 "ShortEnough$Reckoning" "errors" "[J") zw_X7_init_116) (fun _ h9 => h9) rfl hin rfl (by decide +kernel) rfl rfl (Nat.le_of_ble_eq_true rfl) dX7_init_9 ?_
  clear hP hD hS
  intro H locs hP hD hS
  replace hP : va_P (dC, dI) vwCl [zV7 h0 q_1 0 0, zVl q_1 a_2 14 (fun _ => 0)] H := hP
  replace hD := zDW hD hP rfl
  have hP9 := hP.sub (ws' := [zV7 h0 q_1 0 0, zVl q_1 a_2 14 (fun _ => 0)]) [0, 1] rfl
  have hD9 := hD.sub (ws' := [zV7 h0 q_1 0 0, zVl q_1 a_2 14 (fun _ => 0)]) [0, 1] (by decide) rfl
  have hK9 := hK.sub (tys' := [(a_2, .long)]) [0] rfl
  refine W.widen (k := 1) (n := 14) (Nat.le_of_ble_eq_true rfl) (Nat.le_of_ble_eq_true rfl) ?_
  exact W.vret hx hb hr (fun t ht hW => ⟨⟨((fun k => ([q_1, a_2] : List Nat).getD k 0), (fun k => ([] : List (Nat → Int32)).getD k (fun _ => 0))), rfl, trivial, by rw [ht]; exact hP9, va_K.moved hW.alike hK9, hD9⟩, hS.F ht⟩) hS.2.2 dX7_init_12
set_option maxHeartbeats 4000000 in
set_option maxRecDepth 100000 in
theorem zc14_X1_init (l : Launch) (dC : Nat → ClassId) (dI : Nat → Nat → Nat) (h0 : Nat) (sz : Nat) : Met l yX1_init wsX1_init ({ frames := 2, cells := 8, slots := 31, locals := 40 }) (va_Pc [.ref h0] (fun U => va_Nw (.methodLinkNest RX1 11 yX7_init RX11) U ∧ U.heap.size = sz ∧ va_P (dC, dI) vwCl [(h0, .inr (1, [.null, .null, .int 0, .int 0, .null, .null, .int 0, .int 0, .int 0, .int 0, .int 0, .null, .null, .null]))] U.heap ∧ va_K (dC, dI) vwCl [] U ∧ va_D (fun _ => True) [(h0, .inr (1, [.null, .null, .int 0, .int 0, .null, .null, .int 0, .int 0, .int 0, .int 0, .int 0, .null, .null, .null]))])) (va_Qv (fun (u : zU) => True) (fun u t => va_P (dC, dI) vwCl [zV1 h0 (u.1 0) (u.1 1) 0 0 (u.1 2) (u.1 3) 0 (-1) 0 (-1) 0 (u.1 4) (u.1 5) (u.1 6), zV7 (u.1 0) (u.1 7) 0 0, zVl (u.1 7) (u.1 8) 14 (fun _ => 0), zVi (u.1 1) (u.1 9) 14 (fun _ => 0), zVi (u.1 2) (u.1 10) 0 (fun _ => 0), zVi (u.1 3) (u.1 11) 0 (fun _ => 0), zVi (u.1 4) (u.1 12) 0 (fun _ => 0), zVi (u.1 5) (u.1 13) 0 (fun _ => 0), zVi (u.1 6) (u.1 14) 0 (fun _ => 0)] t.heap ∧ va_K (dC, dI) vwCl [((u.1 8), .long), ((u.1 9), .int), ((u.1 10), .int), ((u.1 11), .int), ((u.1 12), .int), ((u.1 13), .int), ((u.1 14), .int)] t ∧ va_D (va_A [(h0, .inr (1, [.null, .null, .int 0, .int 0, .null, .null, .int 0, .int 0, .int 0, .int 0, .int 0, .null, .null, .null]))] sz) [zV1 h0 (u.1 0) (u.1 1) 0 0 (u.1 2) (u.1 3) 0 (-1) 0 (-1) 0 (u.1 4) (u.1 5) (u.1 6), zV7 (u.1 0) (u.1 7) 0 0, zVl (u.1 7) (u.1 8) 14 (fun _ => 0), zVi (u.1 1) (u.1 9) 14 (fun _ => 0), zVi (u.1 2) (u.1 10) 0 (fun _ => 0), zVi (u.1 3) (u.1 11) 0 (fun _ => 0), zVi (u.1 4) (u.1 12) 0 (fun _ => 0), zVi (u.1 5) (u.1 13) 0 (fun _ => 0), zVi (u.1 6) (u.1 14) 0 (fun _ => 0)]) (va_A [(h0, .inr (1, [.null, .null, .int 0, .int 0, .null, .null, .int 0, .int 0, .int 0, .int 0, .int 0, .null, .null, .null]))] sz)) 8 31 (va_A [(h0, .inr (1, [.null, .null, .int 0, .int 0, .null, .null, .int 0, .int 0, .int 0, .int 0, .int 0, .null, .null, .null]))] sz) := by
  refine Met.ofW (cc := cX1_init) (maxL := 1) (ret := none) (by decide +kernel) rfl ?_
  intro p e s m args below meth c s₁ B hml hv
  obtain ⟨rfl, hn0, hsz, hP, hK, hD0⟩ := hv
  have hx := B.exec
  have hb := B.bytes
  have hr := B.returns
  have hts := atoms_spec (ws := wsX1_init) B.pre
  have hown : s.vm.findClass RX1 = some m.cls := (findClass_of_methodNamed B.named :)
  have hlocks := B.notSynchronized
  have hin : meth.name = "<init>" := (name_of_methodNamed B.named B.method).1
  subst hsz
  replace hD := hD0.self (sz := s.heap.size)
  generalize hAe : va_A [(h0, .inr (1, [.null, .null, .int 0, .int 0, .null, .null, .int 0, .int 0, .int 0, .int 0, .int 0, .null, .null, .null]))] s.heap.size = A at hD ⊢
  have hA : ∀ q : Nat, s.heap.size ≤ q → A q := fun q h => by rw [← hAe]; exact Or.inr h
  have hS : va_S A s.heap s.heap [] := va_S.rf
  replace hP : va_P (dC, dI) vwCl [(h0, .inr (1, [.null, .null, .int 0, .int 0, .null, .null, .int 0, .int 0, .int 0, .int 0, .int 0, .null, .null, .null]))] s.heap := hP
  have hl := lv_entry ([.ref h0]) (n := 1) (Nat.le_of_ble_eq_true rfl)
  rw [lg_entry_eq]
  generalize (lg_sl ([.ref h0]) ++ List.replicate (1 - (lg_sl ([.ref h0])).length) Slot.unset).toArray = ls at hl ⊢
  have hl : lv_has ls 1 [(0, .ref h0)] := hl
  refine lv_aload_n hx hb dX1_init_0 rfl (lv_at hl 0 rfl) ?_
  refine W.objInit hx hb hown (hts (.methodLink RX1 3 objectInit) zw_X1_init_130) (hts (.instanceMethod objectInit) zw_X1_init_131) (hts (.code objectInit ⟨#[0xb1]⟩ 1 none) zw_X1_init_132) rfl (by rw [hml]; exact hl.1) rfl dX1_init_1 (Nat.le_of_ble_eq_true rfl) (Nat.le_of_ble_eq_true rfl) ?_
  refine W.eq (g2 := F0 m 4 ls []) rfl ?_
  refine lv_aload_n hx hb dX1_init_4 rfl (lv_at hl 0 rfl) ?_
  refine va_new (ci := 7) (fs := [.null, .int 0, .int 0]) (C := RX7) (T := TX7) (N := 3) hx hb hts zn_X1_init_X7 tyX7 tyX7_ok hown (hts (.classLink RX1 9 RX7) zw_X1_init_134) (hts (.instantiable RX7 3) zw_X1_init_135) (hts (.initialized RX7) zw_X1_init_136) hK hP hD hS hA rfl zd_X7 (Nat.le_of_ble_eq_true rfl) (Nat.le_of_ble_eq_true rfl) dX1_init_5 (fun q_1 H hP hD hS => ?_)
  replace hP : va_P (dC, dI) vwCl [(h0, .inr (1, [.null, .null, .int 0, .int 0, .null, .null, .int 0, .int 0, .int 0, .int 0, .int 0, .null, .null, .null])), (q_1, .inr (7, [.null, .int 0, .int 0]))] H := hP
  replace hD := zDW hD hP rfl
  refine W.widen (k := 1) (n := 3) (Nat.le_of_ble_eq_true rfl) (Nat.le_of_ble_eq_true rfl) ?_
  refine lv_dup hx hb dX1_init_8 rfl ?_
  replace hPc := hP.sub (ws' := [(q_1, .inr (7, [.null, .int 0, .int 0]))]) [1] rfl
  replace hDc := hD.sub (ws' := [(q_1, .inr (7, [.null, .int 0, .int 0]))]) [1] (by decide) rfl
  replace hKc := hK.sub (tys' := []) [] rfl
  replace hFc := va_free (wc := [(q_1, .inr (7, [.null, .int 0, .int 0]))]) hD hS hA [1] rfl
  refine va_callv (va_runIN (As := []) (rest := [.ref q_1, .ref h0]) ⟨hx, hb, hml, hown, hts⟩ (zc13_X7_init l dC dI q_1 H.size) ⟨va_cnB (host := RX11) 0 hts gX1_init_X7_init_n11 rfl rfl rfl hn0 (hts (.initialized RX7) zw_X1_init_136) (by decide +kernel) ⟨Nat.le_of_ble_eq_true rfl, Nat.le_of_ble_eq_true rfl⟩, rfl, (hts (.instanceMethod yX7_init) zw_X1_init_137)⟩ ⟨fun a U g mk q => by obtain ⟨q0, q1, qP, qK, qD⟩ := q; exact ⟨q0, q1, qP, va_K.moved (u := U) (U := U.calling g mk a) (Vm.Alike.refl U.vm) qK, qD⟩, fun U hU hW => ⟨rfl, by rw [hU], by rw [hU]; exact hPc, va_K.moved hW.alike hKc, hDc.weaken (fun _ _ _ _ => trivial)⟩⟩ rfl rfl hl.1 rfl (lv_room (Nat.le_of_ble_eq_true rfl)) dX1_init_9 ⟨Nat.le_of_ble_eq_true rfl, Nat.le_of_ble_eq_true rfl⟩) hS (fun q _ h => hFc q h) hFc (fun u_3 t H1 locs ht hvm hw_4 hB hz1 hk1 hS => ?_)
  obtain ⟨hP1, hK1, hD1⟩ := hB
  rw [ht] at hP1
  replace hK1 := va_K.moved hvm.symm hK1
  obtain ⟨hP, hD⟩ := va_join (wr := [(h0, .inr (1, [.null, .null, .int 0, .int 0, .null, .null, .int 0, .int 0, .int 0, .int 0, .int 0, .null, .null, .null]))]) (w1 := [zV7 q_1 (u_3.1 0) 0 0, zVl (u_3.1 0) (u_3.1 1) 14 (fun _ => 0)]) hP hD [1] [0] rfl rfl (by decide) (by decide) hk1 hFc hP1 hD1
  replace hK := hK.app hK1
  generalize H1 = H at hP hS ⊢
  replace hP : va_P (dC, dI) vwCl [(h0, .inr (1, [.null, .null, .int 0, .int 0, .null, .null, .int 0, .int 0, .int 0, .int 0, .int 0, .null, .null, .null])), zV7 q_1 (u_3.1 0) 0 0, zVl (u_3.1 0) (u_3.1 1) 14 (fun _ => 0)] H := hP
  replace hD := zDW hD hP rfl
  replace hK : va_K (dC, dI) vwCl [((u_3.1 1), .long)] s := hK
  refine W.widen (k := 2) (n := 17) (Nat.le_of_ble_eq_true rfl) (Nat.le_of_ble_eq_true rfl) ?_
  refine va_putF (D := (dC, dI)) (ci := 1) (v := .ref q_1) (ty := .object "ShortEnough$Reckoning") (C := RX1) (T := TX1) (N := 14) hx hb hts zn_X1_init_X1 tyX1 tyX1_ok nmX1 hown hK hP hD hS 0 rfl rfl 0 (by decide) (hts (.fieldLink RX1 12 "ShortEnough$FullSearch" "reckoning" "LShortEnough$Reckoning;") zw_X1_init_139) (fun _ h9 => h9) rfl hin rfl (by decide +kernel) rfl rfl (Nat.le_of_ble_eq_true rfl) dX1_init_12 ?_
  clear hP hD hS
  intro H locs hP hD hS
  replace hP : va_P (dC, dI) vwCl [(h0, .inr (1, [.ref q_1, .null, .int 0, .int 0, .null, .null, .int 0, .int 0, .int 0, .int 0, .int 0, .null, .null, .null])), zV7 q_1 (u_3.1 0) 0 0, zVl (u_3.1 0) (u_3.1 1) 14 (fun _ => 0)] H := hP
  replace hD := zDW hD hP rfl
  refine lv_aload_n hx hb dX1_init_15 rfl (lv_at hl 0 rfl) ?_
  refine lv_bipush (v := 14) hx hb dX1_init_16 zcb_14 ?_
  refine va_newa (atype := .int) (ty := .int) (N' := 14) (a0 := (14, .inl (fun _ => 0))) hx hb (hts (.arrayClass .int) zw_X1_init_140) rfl hK hP hD hS hA (fun _ => rfl) (by decide +kernel) (by decide +kernel) (Nat.le_of_ble_eq_true rfl) (Nat.le_of_ble_eq_true rfl) (Nat.le_of_ble_eq_true rfl) dX1_init_18 (fun q_5 a_6 H hK hP hD hS => ?_)
  replace hP : va_P (dC, dI) vwCl [(h0, .inr (1, [.ref q_1, .null, .int 0, .int 0, .null, .null, .int 0, .int 0, .int 0, .int 0, .int 0, .null, .null, .null])), zV7 q_1 (u_3.1 0) 0 0, zVl (u_3.1 0) (u_3.1 1) 14 (fun _ => 0), zVi q_5 a_6 14 (fun _ => 0)] H := hP
  replace hD := zDW hD hP rfl
  replace hK : va_K (dC, dI) vwCl [((u_3.1 1), .long), (a_6, .int)] s := hK
  refine W.widen (k := 3) (n := 31) (Nat.le_of_ble_eq_true rfl) (Nat.le_of_ble_eq_true rfl) ?_
  refine va_putF (D := (dC, dI)) (ci := 1) (v := .ref q_5) (ty := .array .int) (C := RX1) (T := TX1) (N := 14) hx hb hts zn_X1_init_X1 tyX1 tyX1_ok nmX1 hown hK hP hD hS 0 rfl rfl 1 (by decide) (hts (.fieldLink RX1 18 "ShortEnough$FullSearch" "choice" "[I") zw_X1_init_141) (fun _ h9 => h9) rfl hin rfl (by decide +kernel) rfl rfl (Nat.le_of_ble_eq_true rfl) dX1_init_20 ?_
  clear hP hD hS
  intro H locs hP hD hS
  replace hP : va_P (dC, dI) vwCl [(h0, .inr (1, [.ref q_1, .ref q_5, .int 0, .int 0, .null, .null, .int 0, .int 0, .int 0, .int 0, .int 0, .null, .null, .null])), zV7 q_1 (u_3.1 0) 0 0, zVl (u_3.1 0) (u_3.1 1) 14 (fun _ => 0), zVi q_5 a_6 14 (fun _ => 0)] H := hP
  replace hD := zDW hD hP rfl
  refine lv_aload_n hx hb dX1_init_23 rfl (lv_at hl 0 rfl) ?_
  refine lv_iconst (v := 0) hx hb dX1_init_24 zci_0 ?_
  refine va_newa (atype := .int) (ty := .int) (N' := 0) (a0 := (0, .inl (fun _ => 0))) hx hb (hts (.arrayClass .int) zw_X1_init_140) rfl hK hP hD hS hA (fun _ => rfl) (by decide +kernel) (by decide +kernel) (Nat.le_of_ble_eq_true rfl) (Nat.le_of_ble_eq_true rfl) (Nat.le_of_ble_eq_true rfl) dX1_init_25 (fun q_7 a_8 H hK hP hD hS => ?_)
  replace hP : va_P (dC, dI) vwCl [(h0, .inr (1, [.ref q_1, .ref q_5, .int 0, .int 0, .null, .null, .int 0, .int 0, .int 0, .int 0, .int 0, .null, .null, .null])), zV7 q_1 (u_3.1 0) 0 0, zVl (u_3.1 0) (u_3.1 1) 14 (fun _ => 0), zVi q_5 a_6 14 (fun _ => 0), zVi q_7 a_8 0 (fun _ => 0)] H := hP
  replace hD := zDW hD hP rfl
  replace hK : va_K (dC, dI) vwCl [((u_3.1 1), .long), (a_6, .int), (a_8, .int)] s := hK
  refine W.widen (k := 4) (n := 31) (Nat.le_of_ble_eq_true rfl) (Nat.le_of_ble_eq_true rfl) ?_
  refine va_put (D := (dC, dI)) (ci := 1) (v := .ref q_7) (ty := .array .int) (C := RX1) (T := TX1) (N := 14) hx hb hts zn_X1_init_X1 tyX1 tyX1_ok nmX1 hown hK hP hD hS 0 rfl rfl 4 (by decide) (hts (.fieldLink RX1 22 "ShortEnough$FullSearch" "prices" "[I") zw_X1_init_142) (fun _ h9 => h9) rfl (by decide +kernel) rfl rfl (Nat.le_of_ble_eq_true rfl) dX1_init_27 ?_
  clear hP hD hS
  intro H locs hP hD hS
  replace hP : va_P (dC, dI) vwCl [(h0, .inr (1, [.ref q_1, .ref q_5, .int 0, .int 0, .ref q_7, .null, .int 0, .int 0, .int 0, .int 0, .int 0, .null, .null, .null])), zV7 q_1 (u_3.1 0) 0 0, zVl (u_3.1 0) (u_3.1 1) 14 (fun _ => 0), zVi q_5 a_6 14 (fun _ => 0), zVi q_7 a_8 0 (fun _ => 0)] H := hP
  replace hD := zDW hD hP rfl
  refine lv_aload_n hx hb dX1_init_30 rfl (lv_at hl 0 rfl) ?_
  refine lv_iconst (v := 0) hx hb dX1_init_31 zci_0 ?_
  refine va_newa (atype := .int) (ty := .int) (N' := 0) (a0 := (0, .inl (fun _ => 0))) hx hb (hts (.arrayClass .int) zw_X1_init_140) rfl hK hP hD hS hA (fun _ => rfl) (by decide +kernel) (by decide +kernel) (Nat.le_of_ble_eq_true rfl) (Nat.le_of_ble_eq_true rfl) (Nat.le_of_ble_eq_true rfl) dX1_init_32 (fun q_9 a_10 H hK hP hD hS => ?_)
  replace hP : va_P (dC, dI) vwCl [(h0, .inr (1, [.ref q_1, .ref q_5, .int 0, .int 0, .ref q_7, .null, .int 0, .int 0, .int 0, .int 0, .int 0, .null, .null, .null])), zV7 q_1 (u_3.1 0) 0 0, zVl (u_3.1 0) (u_3.1 1) 14 (fun _ => 0), zVi q_5 a_6 14 (fun _ => 0), zVi q_7 a_8 0 (fun _ => 0), zVi q_9 a_10 0 (fun _ => 0)] H := hP
  replace hD := zDW hD hP rfl
  replace hK : va_K (dC, dI) vwCl [((u_3.1 1), .long), (a_6, .int), (a_8, .int), (a_10, .int)] s := hK
  refine W.widen (k := 5) (n := 31) (Nat.le_of_ble_eq_true rfl) (Nat.le_of_ble_eq_true rfl) ?_
  refine va_put (D := (dC, dI)) (ci := 1) (v := .ref q_9) (ty := .array .int) (C := RX1) (T := TX1) (N := 14) hx hb hts zn_X1_init_X1 tyX1 tyX1_ok nmX1 hown hK hP hD hS 0 rfl rfl 5 (by decide) (hts (.fieldLink RX1 25 "ShortEnough$FullSearch" "errors" "[I") zw_X1_init_143) (fun _ h9 => h9) rfl (by decide +kernel) rfl rfl (Nat.le_of_ble_eq_true rfl) dX1_init_34 ?_
  clear hP hD hS
  intro H locs hP hD hS
  replace hP : va_P (dC, dI) vwCl [(h0, .inr (1, [.ref q_1, .ref q_5, .int 0, .int 0, .ref q_7, .ref q_9, .int 0, .int 0, .int 0, .int 0, .int 0, .null, .null, .null])), zV7 q_1 (u_3.1 0) 0 0, zVl (u_3.1 0) (u_3.1 1) 14 (fun _ => 0), zVi q_5 a_6 14 (fun _ => 0), zVi q_7 a_8 0 (fun _ => 0), zVi q_9 a_10 0 (fun _ => 0)] H := hP
  replace hD := zDW hD hP rfl
  refine lv_aload_n hx hb dX1_init_37 rfl (lv_at hl 0 rfl) ?_
  refine lv_iconst (v := (-1)) hx hb dX1_init_38 zci_m1 ?_
  refine va_put (D := (dC, dI)) (ci := 1) (v := .int (-1)) (ty := .int) (C := RX1) (T := TX1) (N := 14) hx hb hts zn_X1_init_X1 tyX1 tyX1_ok nmX1 hown hK hP hD hS 0 rfl rfl 7 (by decide) (hts (.fieldLink RX1 28 "ShortEnough$FullSearch" "best" "I") zw_X1_init_144) (fun _ h9 => h9) rfl (by decide +kernel) rfl rfl (Nat.le_of_ble_eq_true rfl) dX1_init_39 ?_
  clear hP hD hS
  intro H locs hP hD hS
  replace hP : va_P (dC, dI) vwCl [(h0, .inr (1, [.ref q_1, .ref q_5, .int 0, .int 0, .ref q_7, .ref q_9, .int 0, .int (-1), .int 0, .int 0, .int 0, .null, .null, .null])), zV7 q_1 (u_3.1 0) 0 0, zVl (u_3.1 0) (u_3.1 1) 14 (fun _ => 0), zVi q_5 a_6 14 (fun _ => 0), zVi q_7 a_8 0 (fun _ => 0), zVi q_9 a_10 0 (fun _ => 0)] H := hP
  replace hD := zDW hD hP rfl
  refine lv_aload_n hx hb dX1_init_42 rfl (lv_at hl 0 rfl) ?_
  refine lv_iconst (v := (-1)) hx hb dX1_init_43 zci_m1 ?_
  refine va_put (D := (dC, dI)) (ci := 1) (v := .int (-1)) (ty := .int) (C := RX1) (T := TX1) (N := 14) hx hb hts zn_X1_init_X1 tyX1 tyX1_ok nmX1 hown hK hP hD hS 0 rfl rfl 9 (by decide) (hts (.fieldLink RX1 32 "ShortEnough$FullSearch" "frontOf" "I") zw_X1_init_145) (fun _ h9 => h9) rfl (by decide +kernel) rfl rfl (Nat.le_of_ble_eq_true rfl) dX1_init_44 ?_
  clear hP hD hS
  intro H locs hP hD hS
  replace hP : va_P (dC, dI) vwCl [(h0, .inr (1, [.ref q_1, .ref q_5, .int 0, .int 0, .ref q_7, .ref q_9, .int 0, .int (-1), .int 0, .int (-1), .int 0, .null, .null, .null])), zV7 q_1 (u_3.1 0) 0 0, zVl (u_3.1 0) (u_3.1 1) 14 (fun _ => 0), zVi q_5 a_6 14 (fun _ => 0), zVi q_7 a_8 0 (fun _ => 0), zVi q_9 a_10 0 (fun _ => 0)] H := hP
  replace hD := zDW hD hP rfl
  refine lv_aload_n hx hb dX1_init_47 rfl (lv_at hl 0 rfl) ?_
  refine lv_iconst (v := 0) hx hb dX1_init_48 zci_0 ?_
  refine va_newa (atype := .int) (ty := .int) (N' := 0) (a0 := (0, .inl (fun _ => 0))) hx hb (hts (.arrayClass .int) zw_X1_init_140) rfl hK hP hD hS hA (fun _ => rfl) (by decide +kernel) (by decide +kernel) (Nat.le_of_ble_eq_true rfl) (Nat.le_of_ble_eq_true rfl) (Nat.le_of_ble_eq_true rfl) dX1_init_49 (fun q_11 a_12 H hK hP hD hS => ?_)
  replace hP : va_P (dC, dI) vwCl [(h0, .inr (1, [.ref q_1, .ref q_5, .int 0, .int 0, .ref q_7, .ref q_9, .int 0, .int (-1), .int 0, .int (-1), .int 0, .null, .null, .null])), zV7 q_1 (u_3.1 0) 0 0, zVl (u_3.1 0) (u_3.1 1) 14 (fun _ => 0), zVi q_5 a_6 14 (fun _ => 0), zVi q_7 a_8 0 (fun _ => 0), zVi q_9 a_10 0 (fun _ => 0), zVi q_11 a_12 0 (fun _ => 0)] H := hP
  replace hD := zDW hD hP rfl
  replace hK : va_K (dC, dI) vwCl [((u_3.1 1), .long), (a_6, .int), (a_8, .int), (a_10, .int), (a_12, .int)] s := hK
  refine W.widen (k := 6) (n := 31) (Nat.le_of_ble_eq_true rfl) (Nat.le_of_ble_eq_true rfl) ?_
  refine va_put (D := (dC, dI)) (ci := 1) (v := .ref q_11) (ty := .array .int) (C := RX1) (T := TX1) (N := 14) hx hb hts zn_X1_init_X1 tyX1 tyX1_ok nmX1 hown hK hP hD hS 0 rfl rfl 11 (by decide) (hts (.fieldLink RX1 35 "ShortEnough$FullSearch" "frontPrice" "[I") zw_X1_init_146) (fun _ h9 => h9) rfl (by decide +kernel) rfl rfl (Nat.le_of_ble_eq_true rfl) dX1_init_51 ?_
  clear hP hD hS
  intro H locs hP hD hS
  replace hP : va_P (dC, dI) vwCl [(h0, .inr (1, [.ref q_1, .ref q_5, .int 0, .int 0, .ref q_7, .ref q_9, .int 0, .int (-1), .int 0, .int (-1), .int 0, .ref q_11, .null, .null])), zV7 q_1 (u_3.1 0) 0 0, zVl (u_3.1 0) (u_3.1 1) 14 (fun _ => 0), zVi q_5 a_6 14 (fun _ => 0), zVi q_7 a_8 0 (fun _ => 0), zVi q_9 a_10 0 (fun _ => 0), zVi q_11 a_12 0 (fun _ => 0)] H := hP
  replace hD := zDW hD hP rfl
  refine lv_aload_n hx hb dX1_init_54 rfl (lv_at hl 0 rfl) ?_
  refine lv_iconst (v := 0) hx hb dX1_init_55 zci_0 ?_
  refine va_newa (atype := .int) (ty := .int) (N' := 0) (a0 := (0, .inl (fun _ => 0))) hx hb (hts (.arrayClass .int) zw_X1_init_140) rfl hK hP hD hS hA (fun _ => rfl) (by decide +kernel) (by decide +kernel) (Nat.le_of_ble_eq_true rfl) (Nat.le_of_ble_eq_true rfl) (Nat.le_of_ble_eq_true rfl) dX1_init_56 (fun q_13 a_14 H hK hP hD hS => ?_)
  replace hP : va_P (dC, dI) vwCl [(h0, .inr (1, [.ref q_1, .ref q_5, .int 0, .int 0, .ref q_7, .ref q_9, .int 0, .int (-1), .int 0, .int (-1), .int 0, .ref q_11, .null, .null])), zV7 q_1 (u_3.1 0) 0 0, zVl (u_3.1 0) (u_3.1 1) 14 (fun _ => 0), zVi q_5 a_6 14 (fun _ => 0), zVi q_7 a_8 0 (fun _ => 0), zVi q_9 a_10 0 (fun _ => 0), zVi q_11 a_12 0 (fun _ => 0), zVi q_13 a_14 0 (fun _ => 0)] H := hP
  replace hD := zDW hD hP rfl
  replace hK : va_K (dC, dI) vwCl [((u_3.1 1), .long), (a_6, .int), (a_8, .int), (a_10, .int), (a_12, .int), (a_14, .int)] s := hK
  refine W.widen (k := 7) (n := 31) (Nat.le_of_ble_eq_true rfl) (Nat.le_of_ble_eq_true rfl) ?_
  refine va_put (D := (dC, dI)) (ci := 1) (v := .ref q_13) (ty := .array .int) (C := RX1) (T := TX1) (N := 14) hx hb hts zn_X1_init_X1 tyX1 tyX1_ok nmX1 hown hK hP hD hS 0 rfl rfl 12 (by decide) (hts (.fieldLink RX1 38 "ShortEnough$FullSearch" "frontError" "[I") zw_X1_init_147) (fun _ h9 => h9) rfl (by decide +kernel) rfl rfl (Nat.le_of_ble_eq_true rfl) dX1_init_58 ?_
  clear hP hD hS
  intro H locs hP hD hS
  replace hP : va_P (dC, dI) vwCl [(h0, .inr (1, [.ref q_1, .ref q_5, .int 0, .int 0, .ref q_7, .ref q_9, .int 0, .int (-1), .int 0, .int (-1), .int 0, .ref q_11, .ref q_13, .null])), zV7 q_1 (u_3.1 0) 0 0, zVl (u_3.1 0) (u_3.1 1) 14 (fun _ => 0), zVi q_5 a_6 14 (fun _ => 0), zVi q_7 a_8 0 (fun _ => 0), zVi q_9 a_10 0 (fun _ => 0), zVi q_11 a_12 0 (fun _ => 0), zVi q_13 a_14 0 (fun _ => 0)] H := hP
  replace hD := zDW hD hP rfl
  refine lv_aload_n hx hb dX1_init_61 rfl (lv_at hl 0 rfl) ?_
  refine lv_iconst (v := 0) hx hb dX1_init_62 zci_0 ?_
  refine va_newa (atype := .int) (ty := .int) (N' := 0) (a0 := (0, .inl (fun _ => 0))) hx hb (hts (.arrayClass .int) zw_X1_init_140) rfl hK hP hD hS hA (fun _ => rfl) (by decide +kernel) (by decide +kernel) (Nat.le_of_ble_eq_true rfl) (Nat.le_of_ble_eq_true rfl) (Nat.le_of_ble_eq_true rfl) dX1_init_63 (fun q_15 a_16 H hK hP hD hS => ?_)
  replace hP : va_P (dC, dI) vwCl [(h0, .inr (1, [.ref q_1, .ref q_5, .int 0, .int 0, .ref q_7, .ref q_9, .int 0, .int (-1), .int 0, .int (-1), .int 0, .ref q_11, .ref q_13, .null])), zV7 q_1 (u_3.1 0) 0 0, zVl (u_3.1 0) (u_3.1 1) 14 (fun _ => 0), zVi q_5 a_6 14 (fun _ => 0), zVi q_7 a_8 0 (fun _ => 0), zVi q_9 a_10 0 (fun _ => 0), zVi q_11 a_12 0 (fun _ => 0), zVi q_13 a_14 0 (fun _ => 0), zVi q_15 a_16 0 (fun _ => 0)] H := hP
  replace hD := zDW hD hP rfl
  replace hK : va_K (dC, dI) vwCl [((u_3.1 1), .long), (a_6, .int), (a_8, .int), (a_10, .int), (a_12, .int), (a_14, .int), (a_16, .int)] s := hK
  refine W.widen (k := 8) (n := 31) (Nat.le_of_ble_eq_true rfl) (Nat.le_of_ble_eq_true rfl) ?_
  refine va_put (D := (dC, dI)) (ci := 1) (v := .ref q_15) (ty := .array .int) (C := RX1) (T := TX1) (N := 14) hx hb hts zn_X1_init_X1 tyX1 tyX1_ok nmX1 hown hK hP hD hS 0 rfl rfl 13 (by decide) (hts (.fieldLink RX1 41 "ShortEnough$FullSearch" "frontMany" "[I") zw_X1_init_148) (fun _ h9 => h9) rfl (by decide +kernel) rfl rfl (Nat.le_of_ble_eq_true rfl) dX1_init_65 ?_
  clear hP hD hS
  intro H locs hP hD hS
  replace hP : va_P (dC, dI) vwCl [zV1 h0 q_1 q_5 0 0 q_7 q_9 0 (-1) 0 (-1) 0 q_11 q_13 q_15, zV7 q_1 (u_3.1 0) 0 0, zVl (u_3.1 0) (u_3.1 1) 14 (fun _ => 0), zVi q_5 a_6 14 (fun _ => 0), zVi q_7 a_8 0 (fun _ => 0), zVi q_9 a_10 0 (fun _ => 0), zVi q_11 a_12 0 (fun _ => 0), zVi q_13 a_14 0 (fun _ => 0), zVi q_15 a_16 0 (fun _ => 0)] H := hP
  replace hD := zDW hD hP rfl
  have hP9 := hP.sub (ws' := [zV1 h0 q_1 q_5 0 0 q_7 q_9 0 (-1) 0 (-1) 0 q_11 q_13 q_15, zV7 q_1 (u_3.1 0) 0 0, zVl (u_3.1 0) (u_3.1 1) 14 (fun _ => 0), zVi q_5 a_6 14 (fun _ => 0), zVi q_7 a_8 0 (fun _ => 0), zVi q_9 a_10 0 (fun _ => 0), zVi q_11 a_12 0 (fun _ => 0), zVi q_13 a_14 0 (fun _ => 0), zVi q_15 a_16 0 (fun _ => 0)]) [0, 1, 2, 3, 4, 5, 6, 7, 8] rfl
  have hD9 := hD.sub (ws' := [zV1 h0 q_1 q_5 0 0 q_7 q_9 0 (-1) 0 (-1) 0 q_11 q_13 q_15, zV7 q_1 (u_3.1 0) 0 0, zVl (u_3.1 0) (u_3.1 1) 14 (fun _ => 0), zVi q_5 a_6 14 (fun _ => 0), zVi q_7 a_8 0 (fun _ => 0), zVi q_9 a_10 0 (fun _ => 0), zVi q_11 a_12 0 (fun _ => 0), zVi q_13 a_14 0 (fun _ => 0), zVi q_15 a_16 0 (fun _ => 0)]) [0, 1, 2, 3, 4, 5, 6, 7, 8] (by decide) rfl
  have hK9 := hK.sub (tys' := [((u_3.1 1), .long), (a_6, .int), (a_8, .int), (a_10, .int), (a_12, .int), (a_14, .int), (a_16, .int)]) [0, 1, 2, 3, 4, 5, 6] rfl
  refine W.widen (k := 8) (n := 31) (Nat.le_of_ble_eq_true rfl) (Nat.le_of_ble_eq_true rfl) ?_
  exact W.vret hx hb hr (fun t ht hW => ⟨⟨((fun k => ([q_1, q_5, q_7, q_9, q_11, q_13, q_15, (u_3.1 0), (u_3.1 1), a_6, a_8, a_10, a_12, a_14, a_16] : List Nat).getD k 0), (fun k => ([] : List (Nat → Int32)).getD k (fun _ => 0))), rfl, trivial, by rw [ht]; exact hP9, va_K.moved hW.alike hK9, hD9⟩, hS.F ht⟩) hS.2.2 dX1_init_68
set_option maxHeartbeats 4000000 in
set_option maxRecDepth 100000 in
theorem zc15_X3_init (l : Launch) (dC : Nat → ClassId) (dI : Nat → Nat → Nat) (h0 : Nat) (sz : Nat) : Met l yX3_init wsX3_init ({ frames := 2, cells := 8, slots := 129, locals := 40 }) (va_Pc [.ref h0] (fun U => va_Nw (.methodLinkNest RX3 11 yX7_init RX11) U ∧ U.heap.size = sz ∧ va_P (dC, dI) vwCl [(h0, .inr (3, [.null, .null, .int 0, .int 0, .null, .null, .null, .null, .int 0, .null, .int 0, .int 0, .int 0, .int 0, .int 0, .int 0]))] U.heap ∧ va_K (dC, dI) vwCl [] U ∧ va_D (fun _ => True) [(h0, .inr (3, [.null, .null, .int 0, .int 0, .null, .null, .null, .null, .int 0, .null, .int 0, .int 0, .int 0, .int 0, .int 0, .int 0]))])) (va_Qv (fun (u : zU) => True) (fun u t => va_P (dC, dI) vwCl [zV3 h0 (u.1 0) (u.1 1) 0 0 (u.1 2) (u.1 3) (u.1 4) (u.1 5) 0 (u.1 6) 0 0 0 0 (-1) (-1), zV7 (u.1 0) (u.1 7) 0 0, zVl (u.1 7) (u.1 8) 14 (fun _ => 0), zVi (u.1 1) (u.1 9) 14 (fun _ => 0), zVi (u.1 2) (u.1 10) 14 (fun _ => 0), zVi (u.1 3) (u.1 11) 14 (fun _ => 0), zVi (u.1 4) (u.1 12) 28 (fun _ => 0), zVi (u.1 5) (u.1 13) 28 (fun _ => 0), zVi (u.1 6) (u.1 14) 14 (fun _ => 0)] t.heap ∧ va_K (dC, dI) vwCl [((u.1 8), .long), ((u.1 9), .int), ((u.1 10), .boolean), ((u.1 11), .int), ((u.1 12), .int), ((u.1 13), .int), ((u.1 14), .int)] t ∧ va_D (va_A [(h0, .inr (3, [.null, .null, .int 0, .int 0, .null, .null, .null, .null, .int 0, .null, .int 0, .int 0, .int 0, .int 0, .int 0, .int 0]))] sz) [zV3 h0 (u.1 0) (u.1 1) 0 0 (u.1 2) (u.1 3) (u.1 4) (u.1 5) 0 (u.1 6) 0 0 0 0 (-1) (-1), zV7 (u.1 0) (u.1 7) 0 0, zVl (u.1 7) (u.1 8) 14 (fun _ => 0), zVi (u.1 1) (u.1 9) 14 (fun _ => 0), zVi (u.1 2) (u.1 10) 14 (fun _ => 0), zVi (u.1 3) (u.1 11) 14 (fun _ => 0), zVi (u.1 4) (u.1 12) 28 (fun _ => 0), zVi (u.1 5) (u.1 13) 28 (fun _ => 0), zVi (u.1 6) (u.1 14) 14 (fun _ => 0)]) (va_A [(h0, .inr (3, [.null, .null, .int 0, .int 0, .null, .null, .null, .null, .int 0, .null, .int 0, .int 0, .int 0, .int 0, .int 0, .int 0]))] sz)) 8 129 (va_A [(h0, .inr (3, [.null, .null, .int 0, .int 0, .null, .null, .null, .null, .int 0, .null, .int 0, .int 0, .int 0, .int 0, .int 0, .int 0]))] sz) := by
  refine Met.ofW (cc := cX3_init) (maxL := 1) (ret := none) (by decide +kernel) rfl ?_
  intro p e s m args below meth c s₁ B hml hv
  obtain ⟨rfl, hn0, hsz, hP, hK, hD0⟩ := hv
  have hx := B.exec
  have hb := B.bytes
  have hr := B.returns
  have hts := atoms_spec (ws := wsX3_init) B.pre
  have hown : s.vm.findClass RX3 = some m.cls := (findClass_of_methodNamed B.named :)
  have hlocks := B.notSynchronized
  have hin : meth.name = "<init>" := (name_of_methodNamed B.named B.method).1
  subst hsz
  replace hD := hD0.self (sz := s.heap.size)
  generalize hAe : va_A [(h0, .inr (3, [.null, .null, .int 0, .int 0, .null, .null, .null, .null, .int 0, .null, .int 0, .int 0, .int 0, .int 0, .int 0, .int 0]))] s.heap.size = A at hD ⊢
  have hA : ∀ q : Nat, s.heap.size ≤ q → A q := fun q h => by rw [← hAe]; exact Or.inr h
  have hS : va_S A s.heap s.heap [] := va_S.rf
  replace hP : va_P (dC, dI) vwCl [(h0, .inr (3, [.null, .null, .int 0, .int 0, .null, .null, .null, .null, .int 0, .null, .int 0, .int 0, .int 0, .int 0, .int 0, .int 0]))] s.heap := hP
  have hl := lv_entry ([.ref h0]) (n := 1) (Nat.le_of_ble_eq_true rfl)
  rw [lg_entry_eq]
  generalize (lg_sl ([.ref h0]) ++ List.replicate (1 - (lg_sl ([.ref h0])).length) Slot.unset).toArray = ls at hl ⊢
  have hl : lv_has ls 1 [(0, .ref h0)] := hl
  refine lv_aload_n hx hb dX3_init_0 rfl (lv_at hl 0 rfl) ?_
  refine W.objInit hx hb hown (hts (.methodLink RX3 3 objectInit) zw_X3_init_155) (hts (.instanceMethod objectInit) zw_X3_init_156) (hts (.code objectInit ⟨#[0xb1]⟩ 1 none) zw_X3_init_157) rfl (by rw [hml]; exact hl.1) rfl dX3_init_1 (Nat.le_of_ble_eq_true rfl) (Nat.le_of_ble_eq_true rfl) ?_
  refine W.eq (g2 := F0 m 4 ls []) rfl ?_
  refine lv_aload_n hx hb dX3_init_4 rfl (lv_at hl 0 rfl) ?_
  refine va_new (ci := 7) (fs := [.null, .int 0, .int 0]) (C := RX7) (T := TX7) (N := 3) hx hb hts zn_X3_init_X7 tyX7 tyX7_ok hown (hts (.classLink RX3 9 RX7) zw_X3_init_159) (hts (.instantiable RX7 3) zw_X3_init_160) (hts (.initialized RX7) zw_X3_init_161) hK hP hD hS hA rfl zd_X7 (Nat.le_of_ble_eq_true rfl) (Nat.le_of_ble_eq_true rfl) dX3_init_5 (fun q_1 H hP hD hS => ?_)
  replace hP : va_P (dC, dI) vwCl [(h0, .inr (3, [.null, .null, .int 0, .int 0, .null, .null, .null, .null, .int 0, .null, .int 0, .int 0, .int 0, .int 0, .int 0, .int 0])), (q_1, .inr (7, [.null, .int 0, .int 0]))] H := hP
  replace hD := zDW hD hP rfl
  refine W.widen (k := 1) (n := 3) (Nat.le_of_ble_eq_true rfl) (Nat.le_of_ble_eq_true rfl) ?_
  refine lv_dup hx hb dX3_init_8 rfl ?_
  replace hPc := hP.sub (ws' := [(q_1, .inr (7, [.null, .int 0, .int 0]))]) [1] rfl
  replace hDc := hD.sub (ws' := [(q_1, .inr (7, [.null, .int 0, .int 0]))]) [1] (by decide) rfl
  replace hKc := hK.sub (tys' := []) [] rfl
  replace hFc := va_free (wc := [(q_1, .inr (7, [.null, .int 0, .int 0]))]) hD hS hA [1] rfl
  refine va_callv (va_runIN (As := []) (rest := [.ref q_1, .ref h0]) ⟨hx, hb, hml, hown, hts⟩ (zc13_X7_init l dC dI q_1 H.size) ⟨va_cnB (host := RX11) 0 hts gX3_init_X7_init_n11 rfl rfl rfl hn0 (hts (.initialized RX7) zw_X3_init_161) (by decide +kernel) ⟨Nat.le_of_ble_eq_true rfl, Nat.le_of_ble_eq_true rfl⟩, rfl, (hts (.instanceMethod yX7_init) zw_X3_init_162)⟩ ⟨fun a U g mk q => by obtain ⟨q0, q1, qP, qK, qD⟩ := q; exact ⟨q0, q1, qP, va_K.moved (u := U) (U := U.calling g mk a) (Vm.Alike.refl U.vm) qK, qD⟩, fun U hU hW => ⟨rfl, by rw [hU], by rw [hU]; exact hPc, va_K.moved hW.alike hKc, hDc.weaken (fun _ _ _ _ => trivial)⟩⟩ rfl rfl hl.1 rfl (lv_room (Nat.le_of_ble_eq_true rfl)) dX3_init_9 ⟨Nat.le_of_ble_eq_true rfl, Nat.le_of_ble_eq_true rfl⟩) hS (fun q _ h => hFc q h) hFc (fun u_3 t H1 locs ht hvm hw_4 hB hz1 hk1 hS => ?_)
  obtain ⟨hP1, hK1, hD1⟩ := hB
  rw [ht] at hP1
  replace hK1 := va_K.moved hvm.symm hK1
  obtain ⟨hP, hD⟩ := va_join (wr := [(h0, .inr (3, [.null, .null, .int 0, .int 0, .null, .null, .null, .null, .int 0, .null, .int 0, .int 0, .int 0, .int 0, .int 0, .int 0]))]) (w1 := [zV7 q_1 (u_3.1 0) 0 0, zVl (u_3.1 0) (u_3.1 1) 14 (fun _ => 0)]) hP hD [1] [0] rfl rfl (by decide) (by decide) hk1 hFc hP1 hD1
  replace hK := hK.app hK1
  generalize H1 = H at hP hS ⊢
  replace hP : va_P (dC, dI) vwCl [(h0, .inr (3, [.null, .null, .int 0, .int 0, .null, .null, .null, .null, .int 0, .null, .int 0, .int 0, .int 0, .int 0, .int 0, .int 0])), zV7 q_1 (u_3.1 0) 0 0, zVl (u_3.1 0) (u_3.1 1) 14 (fun _ => 0)] H := hP
  replace hD := zDW hD hP rfl
  replace hK : va_K (dC, dI) vwCl [((u_3.1 1), .long)] s := hK
  refine W.widen (k := 2) (n := 17) (Nat.le_of_ble_eq_true rfl) (Nat.le_of_ble_eq_true rfl) ?_
  refine va_putF (D := (dC, dI)) (ci := 3) (v := .ref q_1) (ty := .object "ShortEnough$Reckoning") (C := RX3) (T := TX3) (N := 16) hx hb hts zn_X3_init_X3 tyX3 tyX3_ok nmX3 hown hK hP hD hS 0 rfl rfl 0 (by decide) (hts (.fieldLink RX3 12 "ShortEnough$LocalSearch" "reckoning" "LShortEnough$Reckoning;") zw_X3_init_164) (fun _ h9 => h9) rfl hin rfl (by decide +kernel) rfl rfl (Nat.le_of_ble_eq_true rfl) dX3_init_12 ?_
  clear hP hD hS
  intro H locs hP hD hS
  replace hP : va_P (dC, dI) vwCl [(h0, .inr (3, [.ref q_1, .null, .int 0, .int 0, .null, .null, .null, .null, .int 0, .null, .int 0, .int 0, .int 0, .int 0, .int 0, .int 0])), zV7 q_1 (u_3.1 0) 0 0, zVl (u_3.1 0) (u_3.1 1) 14 (fun _ => 0)] H := hP
  replace hD := zDW hD hP rfl
  refine lv_aload_n hx hb dX3_init_15 rfl (lv_at hl 0 rfl) ?_
  refine lv_bipush (v := 14) hx hb dX3_init_16 zcb_14 ?_
  refine va_newa (atype := .int) (ty := .int) (N' := 14) (a0 := (14, .inl (fun _ => 0))) hx hb (hts (.arrayClass .int) zw_X3_init_165) rfl hK hP hD hS hA (fun _ => rfl) (by decide +kernel) (by decide +kernel) (Nat.le_of_ble_eq_true rfl) (Nat.le_of_ble_eq_true rfl) (Nat.le_of_ble_eq_true rfl) dX3_init_18 (fun q_5 a_6 H hK hP hD hS => ?_)
  replace hP : va_P (dC, dI) vwCl [(h0, .inr (3, [.ref q_1, .null, .int 0, .int 0, .null, .null, .null, .null, .int 0, .null, .int 0, .int 0, .int 0, .int 0, .int 0, .int 0])), zV7 q_1 (u_3.1 0) 0 0, zVl (u_3.1 0) (u_3.1 1) 14 (fun _ => 0), zVi q_5 a_6 14 (fun _ => 0)] H := hP
  replace hD := zDW hD hP rfl
  replace hK : va_K (dC, dI) vwCl [((u_3.1 1), .long), (a_6, .int)] s := hK
  refine W.widen (k := 3) (n := 31) (Nat.le_of_ble_eq_true rfl) (Nat.le_of_ble_eq_true rfl) ?_
  refine va_putF (D := (dC, dI)) (ci := 3) (v := .ref q_5) (ty := .array .int) (C := RX3) (T := TX3) (N := 16) hx hb hts zn_X3_init_X3 tyX3 tyX3_ok nmX3 hown hK hP hD hS 0 rfl rfl 1 (by decide) (hts (.fieldLink RX3 18 "ShortEnough$LocalSearch" "near" "[I") zw_X3_init_166) (fun _ h9 => h9) rfl hin rfl (by decide +kernel) rfl rfl (Nat.le_of_ble_eq_true rfl) dX3_init_20 ?_
  clear hP hD hS
  intro H locs hP hD hS
  replace hP : va_P (dC, dI) vwCl [(h0, .inr (3, [.ref q_1, .ref q_5, .int 0, .int 0, .null, .null, .null, .null, .int 0, .null, .int 0, .int 0, .int 0, .int 0, .int 0, .int 0])), zV7 q_1 (u_3.1 0) 0 0, zVl (u_3.1 0) (u_3.1 1) 14 (fun _ => 0), zVi q_5 a_6 14 (fun _ => 0)] H := hP
  replace hD := zDW hD hP rfl
  refine lv_aload_n hx hb dX3_init_23 rfl (lv_at hl 0 rfl) ?_
  refine lv_bipush (v := 14) hx hb dX3_init_24 zcb_14 ?_
  refine va_newa (atype := .boolean) (ty := .boolean) (N' := 14) (a0 := (14, .inl (fun _ => 0))) hx hb (hts (.arrayClass .boolean) zw_X3_init_167) rfl hK hP hD hS hA (fun _ => rfl) (by decide +kernel) (by decide +kernel) (Nat.le_of_ble_eq_true rfl) (Nat.le_of_ble_eq_true rfl) (Nat.le_of_ble_eq_true rfl) dX3_init_26 (fun q_7 a_8 H hK hP hD hS => ?_)
  replace hP : va_P (dC, dI) vwCl [(h0, .inr (3, [.ref q_1, .ref q_5, .int 0, .int 0, .null, .null, .null, .null, .int 0, .null, .int 0, .int 0, .int 0, .int 0, .int 0, .int 0])), zV7 q_1 (u_3.1 0) 0 0, zVl (u_3.1 0) (u_3.1 1) 14 (fun _ => 0), zVi q_5 a_6 14 (fun _ => 0), zVi q_7 a_8 14 (fun _ => 0)] H := hP
  replace hD := zDW hD hP rfl
  replace hK : va_K (dC, dI) vwCl [((u_3.1 1), .long), (a_6, .int), (a_8, .boolean)] s := hK
  refine W.widen (k := 4) (n := 45) (Nat.le_of_ble_eq_true rfl) (Nat.le_of_ble_eq_true rfl) ?_
  refine va_putF (D := (dC, dI)) (ci := 3) (v := .ref q_7) (ty := .array .boolean) (C := RX3) (T := TX3) (N := 16) hx hb hts zn_X3_init_X3 tyX3 tyX3_ok nmX3 hown hK hP hD hS 0 rfl rfl 4 (by decide) (hts (.fieldLink RX3 22 "ShortEnough$LocalSearch" "changed" "[Z") zw_X3_init_168) (fun _ h9 => h9) rfl hin rfl (by decide +kernel) rfl rfl (Nat.le_of_ble_eq_true rfl) dX3_init_28 ?_
  clear hP hD hS
  intro H locs hP hD hS
  replace hP : va_P (dC, dI) vwCl [(h0, .inr (3, [.ref q_1, .ref q_5, .int 0, .int 0, .ref q_7, .null, .null, .null, .int 0, .null, .int 0, .int 0, .int 0, .int 0, .int 0, .int 0])), zV7 q_1 (u_3.1 0) 0 0, zVl (u_3.1 0) (u_3.1 1) 14 (fun _ => 0), zVi q_5 a_6 14 (fun _ => 0), zVi q_7 a_8 14 (fun _ => 0)] H := hP
  replace hD := zDW hD hP rfl
  refine lv_aload_n hx hb dX3_init_31 rfl (lv_at hl 0 rfl) ?_
  refine lv_bipush (v := 14) hx hb dX3_init_32 zcb_14 ?_
  refine va_newa (atype := .int) (ty := .int) (N' := 14) (a0 := (14, .inl (fun _ => 0))) hx hb (hts (.arrayClass .int) zw_X3_init_165) rfl hK hP hD hS hA (fun _ => rfl) (by decide +kernel) (by decide +kernel) (Nat.le_of_ble_eq_true rfl) (Nat.le_of_ble_eq_true rfl) (Nat.le_of_ble_eq_true rfl) dX3_init_34 (fun q_9 a_10 H hK hP hD hS => ?_)
  replace hP : va_P (dC, dI) vwCl [(h0, .inr (3, [.ref q_1, .ref q_5, .int 0, .int 0, .ref q_7, .null, .null, .null, .int 0, .null, .int 0, .int 0, .int 0, .int 0, .int 0, .int 0])), zV7 q_1 (u_3.1 0) 0 0, zVl (u_3.1 0) (u_3.1 1) 14 (fun _ => 0), zVi q_5 a_6 14 (fun _ => 0), zVi q_7 a_8 14 (fun _ => 0), zVi q_9 a_10 14 (fun _ => 0)] H := hP
  replace hD := zDW hD hP rfl
  replace hK : va_K (dC, dI) vwCl [((u_3.1 1), .long), (a_6, .int), (a_8, .boolean), (a_10, .int)] s := hK
  refine W.widen (k := 5) (n := 59) (Nat.le_of_ble_eq_true rfl) (Nat.le_of_ble_eq_true rfl) ?_
  refine va_putF (D := (dC, dI)) (ci := 3) (v := .ref q_9) (ty := .array .int) (C := RX3) (T := TX3) (N := 16) hx hb hts zn_X3_init_X3 tyX3 tyX3_ok nmX3 hown hK hP hD hS 0 rfl rfl 5 (by decide) (hts (.fieldLink RX3 26 "ShortEnough$LocalSearch" "unchanged" "[I") zw_X3_init_169) (fun _ h9 => h9) rfl hin rfl (by decide +kernel) rfl rfl (Nat.le_of_ble_eq_true rfl) dX3_init_36 ?_
  clear hP hD hS
  intro H locs hP hD hS
  replace hP : va_P (dC, dI) vwCl [(h0, .inr (3, [.ref q_1, .ref q_5, .int 0, .int 0, .ref q_7, .ref q_9, .null, .null, .int 0, .null, .int 0, .int 0, .int 0, .int 0, .int 0, .int 0])), zV7 q_1 (u_3.1 0) 0 0, zVl (u_3.1 0) (u_3.1 1) 14 (fun _ => 0), zVi q_5 a_6 14 (fun _ => 0), zVi q_7 a_8 14 (fun _ => 0), zVi q_9 a_10 14 (fun _ => 0)] H := hP
  replace hD := zDW hD hP rfl
  refine lv_aload_n hx hb dX3_init_39 rfl (lv_at hl 0 rfl) ?_
  refine lv_bipush (v := 28) hx hb dX3_init_40 zcb_28 ?_
  refine va_newa (atype := .int) (ty := .int) (N' := 28) (a0 := (28, .inl (fun _ => 0))) hx hb (hts (.arrayClass .int) zw_X3_init_165) rfl hK hP hD hS hA (fun _ => rfl) (by decide +kernel) (by decide +kernel) (Nat.le_of_ble_eq_true rfl) (Nat.le_of_ble_eq_true rfl) (Nat.le_of_ble_eq_true rfl) dX3_init_42 (fun q_11 a_12 H hK hP hD hS => ?_)
  replace hP : va_P (dC, dI) vwCl [(h0, .inr (3, [.ref q_1, .ref q_5, .int 0, .int 0, .ref q_7, .ref q_9, .null, .null, .int 0, .null, .int 0, .int 0, .int 0, .int 0, .int 0, .int 0])), zV7 q_1 (u_3.1 0) 0 0, zVl (u_3.1 0) (u_3.1 1) 14 (fun _ => 0), zVi q_5 a_6 14 (fun _ => 0), zVi q_7 a_8 14 (fun _ => 0), zVi q_9 a_10 14 (fun _ => 0), zVi q_11 a_12 28 (fun _ => 0)] H := hP
  replace hD := zDW hD hP rfl
  replace hK : va_K (dC, dI) vwCl [((u_3.1 1), .long), (a_6, .int), (a_8, .boolean), (a_10, .int), (a_12, .int)] s := hK
  refine W.widen (k := 6) (n := 87) (Nat.le_of_ble_eq_true rfl) (Nat.le_of_ble_eq_true rfl) ?_
  refine va_putF (D := (dC, dI)) (ci := 3) (v := .ref q_11) (ty := .array .int) (C := RX3) (T := TX3) (N := 16) hx hb hts zn_X3_init_X3 tyX3 tyX3_ok nmX3 hown hK hP hD hS 0 rfl rfl 6 (by decide) (hts (.fieldLink RX3 29 "ShortEnough$LocalSearch" "partFrom" "[I") zw_X3_init_170) (fun _ h9 => h9) rfl hin rfl (by decide +kernel) rfl rfl (Nat.le_of_ble_eq_true rfl) dX3_init_44 ?_
  clear hP hD hS
  intro H locs hP hD hS
  replace hP : va_P (dC, dI) vwCl [(h0, .inr (3, [.ref q_1, .ref q_5, .int 0, .int 0, .ref q_7, .ref q_9, .ref q_11, .null, .int 0, .null, .int 0, .int 0, .int 0, .int 0, .int 0, .int 0])), zV7 q_1 (u_3.1 0) 0 0, zVl (u_3.1 0) (u_3.1 1) 14 (fun _ => 0), zVi q_5 a_6 14 (fun _ => 0), zVi q_7 a_8 14 (fun _ => 0), zVi q_9 a_10 14 (fun _ => 0), zVi q_11 a_12 28 (fun _ => 0)] H := hP
  replace hD := zDW hD hP rfl
  refine lv_aload_n hx hb dX3_init_47 rfl (lv_at hl 0 rfl) ?_
  refine lv_bipush (v := 28) hx hb dX3_init_48 zcb_28 ?_
  refine va_newa (atype := .int) (ty := .int) (N' := 28) (a0 := (28, .inl (fun _ => 0))) hx hb (hts (.arrayClass .int) zw_X3_init_165) rfl hK hP hD hS hA (fun _ => rfl) (by decide +kernel) (by decide +kernel) (Nat.le_of_ble_eq_true rfl) (Nat.le_of_ble_eq_true rfl) (Nat.le_of_ble_eq_true rfl) dX3_init_50 (fun q_13 a_14 H hK hP hD hS => ?_)
  replace hP : va_P (dC, dI) vwCl [(h0, .inr (3, [.ref q_1, .ref q_5, .int 0, .int 0, .ref q_7, .ref q_9, .ref q_11, .null, .int 0, .null, .int 0, .int 0, .int 0, .int 0, .int 0, .int 0])), zV7 q_1 (u_3.1 0) 0 0, zVl (u_3.1 0) (u_3.1 1) 14 (fun _ => 0), zVi q_5 a_6 14 (fun _ => 0), zVi q_7 a_8 14 (fun _ => 0), zVi q_9 a_10 14 (fun _ => 0), zVi q_11 a_12 28 (fun _ => 0), zVi q_13 a_14 28 (fun _ => 0)] H := hP
  replace hD := zDW hD hP rfl
  replace hK : va_K (dC, dI) vwCl [((u_3.1 1), .long), (a_6, .int), (a_8, .boolean), (a_10, .int), (a_12, .int), (a_14, .int)] s := hK
  refine W.widen (k := 7) (n := 115) (Nat.le_of_ble_eq_true rfl) (Nat.le_of_ble_eq_true rfl) ?_
  refine va_putF (D := (dC, dI)) (ci := 3) (v := .ref q_13) (ty := .array .int) (C := RX3) (T := TX3) (N := 16) hx hb hts zn_X3_init_X3 tyX3 tyX3_ok nmX3 hown hK hP hD hS 0 rfl rfl 7 (by decide) (hts (.fieldLink RX3 32 "ShortEnough$LocalSearch" "partTo" "[I") zw_X3_init_171) (fun _ h9 => h9) rfl hin rfl (by decide +kernel) rfl rfl (Nat.le_of_ble_eq_true rfl) dX3_init_52 ?_
  clear hP hD hS
  intro H locs hP hD hS
  replace hP : va_P (dC, dI) vwCl [(h0, .inr (3, [.ref q_1, .ref q_5, .int 0, .int 0, .ref q_7, .ref q_9, .ref q_11, .ref q_13, .int 0, .null, .int 0, .int 0, .int 0, .int 0, .int 0, .int 0])), zV7 q_1 (u_3.1 0) 0 0, zVl (u_3.1 0) (u_3.1 1) 14 (fun _ => 0), zVi q_5 a_6 14 (fun _ => 0), zVi q_7 a_8 14 (fun _ => 0), zVi q_9 a_10 14 (fun _ => 0), zVi q_11 a_12 28 (fun _ => 0), zVi q_13 a_14 28 (fun _ => 0)] H := hP
  replace hD := zDW hD hP rfl
  refine lv_aload_n hx hb dX3_init_55 rfl (lv_at hl 0 rfl) ?_
  refine lv_bipush (v := 14) hx hb dX3_init_56 zcb_14 ?_
  refine va_newa (atype := .int) (ty := .int) (N' := 14) (a0 := (14, .inl (fun _ => 0))) hx hb (hts (.arrayClass .int) zw_X3_init_165) rfl hK hP hD hS hA (fun _ => rfl) (by decide +kernel) (by decide +kernel) (Nat.le_of_ble_eq_true rfl) (Nat.le_of_ble_eq_true rfl) (Nat.le_of_ble_eq_true rfl) dX3_init_58 (fun q_15 a_16 H hK hP hD hS => ?_)
  replace hP : va_P (dC, dI) vwCl [(h0, .inr (3, [.ref q_1, .ref q_5, .int 0, .int 0, .ref q_7, .ref q_9, .ref q_11, .ref q_13, .int 0, .null, .int 0, .int 0, .int 0, .int 0, .int 0, .int 0])), zV7 q_1 (u_3.1 0) 0 0, zVl (u_3.1 0) (u_3.1 1) 14 (fun _ => 0), zVi q_5 a_6 14 (fun _ => 0), zVi q_7 a_8 14 (fun _ => 0), zVi q_9 a_10 14 (fun _ => 0), zVi q_11 a_12 28 (fun _ => 0), zVi q_13 a_14 28 (fun _ => 0), zVi q_15 a_16 14 (fun _ => 0)] H := hP
  replace hD := zDW hD hP rfl
  replace hK : va_K (dC, dI) vwCl [((u_3.1 1), .long), (a_6, .int), (a_8, .boolean), (a_10, .int), (a_12, .int), (a_14, .int), (a_16, .int)] s := hK
  refine W.widen (k := 8) (n := 129) (Nat.le_of_ble_eq_true rfl) (Nat.le_of_ble_eq_true rfl) ?_
  refine va_putF (D := (dC, dI)) (ci := 3) (v := .ref q_15) (ty := .array .int) (C := RX3) (T := TX3) (N := 16) hx hb hts zn_X3_init_X3 tyX3 tyX3_ok nmX3 hown hK hP hD hS 0 rfl rfl 9 (by decide) (hts (.fieldLink RX3 35 "ShortEnough$LocalSearch" "row" "[I") zw_X3_init_172) (fun _ h9 => h9) rfl hin rfl (by decide +kernel) rfl rfl (Nat.le_of_ble_eq_true rfl) dX3_init_60 ?_
  clear hP hD hS
  intro H locs hP hD hS
  replace hP : va_P (dC, dI) vwCl [zV3 h0 q_1 q_5 0 0 q_7 q_9 q_11 q_13 0 q_15 0 0 0 0 0 0, zV7 q_1 (u_3.1 0) 0 0, zVl (u_3.1 0) (u_3.1 1) 14 (fun _ => 0), zVi q_5 a_6 14 (fun _ => 0), zVi q_7 a_8 14 (fun _ => 0), zVi q_9 a_10 14 (fun _ => 0), zVi q_11 a_12 28 (fun _ => 0), zVi q_13 a_14 28 (fun _ => 0), zVi q_15 a_16 14 (fun _ => 0)] H := hP
  replace hD := zDW hD hP rfl
  refine lv_aload_n hx hb dX3_init_63 rfl (lv_at hl 0 rfl) ?_
  refine lv_iconst (v := (-1)) hx hb dX3_init_64 zci_m1 ?_
  refine va_put (D := (dC, dI)) (ci := 3) (v := .int (-1)) (ty := .int) (C := RX3) (T := TX3) (N := 16) hx hb hts zn_X3_init_X3 tyX3 tyX3_ok nmX3 hown hK hP hD hS 0 rfl rfl 14 (by decide) (hts (.fieldLink RX3 38 "ShortEnough$LocalSearch" "bestGroup" "I") zw_X3_init_173) (fun _ h9 => h9) rfl (by decide +kernel) rfl rfl (Nat.le_of_ble_eq_true rfl) dX3_init_65 ?_
  clear hP hD hS
  intro H locs hP hD hS
  replace hP : va_P (dC, dI) vwCl [zV3 h0 q_1 q_5 0 0 q_7 q_9 q_11 q_13 0 q_15 0 0 0 0 (-1) 0, zV7 q_1 (u_3.1 0) 0 0, zVl (u_3.1 0) (u_3.1 1) 14 (fun _ => 0), zVi q_5 a_6 14 (fun _ => 0), zVi q_7 a_8 14 (fun _ => 0), zVi q_9 a_10 14 (fun _ => 0), zVi q_11 a_12 28 (fun _ => 0), zVi q_13 a_14 28 (fun _ => 0), zVi q_15 a_16 14 (fun _ => 0)] H := hP
  replace hD := zDW hD hP rfl
  refine lv_aload_n hx hb dX3_init_68 rfl (lv_at hl 0 rfl) ?_
  refine lv_iconst (v := (-1)) hx hb dX3_init_69 zci_m1 ?_
  refine va_put (D := (dC, dI)) (ci := 3) (v := .int (-1)) (ty := .int) (C := RX3) (T := TX3) (N := 16) hx hb hts zn_X3_init_X3 tyX3 tyX3_ok nmX3 hown hK hP hD hS 0 rfl rfl 15 (by decide) (hts (.fieldLink RX3 42 "ShortEnough$LocalSearch" "bestFormat" "I") zw_X3_init_174) (fun _ h9 => h9) rfl (by decide +kernel) rfl rfl (Nat.le_of_ble_eq_true rfl) dX3_init_70 ?_
  clear hP hD hS
  intro H locs hP hD hS
  replace hP : va_P (dC, dI) vwCl [zV3 h0 q_1 q_5 0 0 q_7 q_9 q_11 q_13 0 q_15 0 0 0 0 (-1) (-1), zV7 q_1 (u_3.1 0) 0 0, zVl (u_3.1 0) (u_3.1 1) 14 (fun _ => 0), zVi q_5 a_6 14 (fun _ => 0), zVi q_7 a_8 14 (fun _ => 0), zVi q_9 a_10 14 (fun _ => 0), zVi q_11 a_12 28 (fun _ => 0), zVi q_13 a_14 28 (fun _ => 0), zVi q_15 a_16 14 (fun _ => 0)] H := hP
  replace hD := zDW hD hP rfl
  have hP9 := hP.sub (ws' := [zV3 h0 q_1 q_5 0 0 q_7 q_9 q_11 q_13 0 q_15 0 0 0 0 (-1) (-1), zV7 q_1 (u_3.1 0) 0 0, zVl (u_3.1 0) (u_3.1 1) 14 (fun _ => 0), zVi q_5 a_6 14 (fun _ => 0), zVi q_7 a_8 14 (fun _ => 0), zVi q_9 a_10 14 (fun _ => 0), zVi q_11 a_12 28 (fun _ => 0), zVi q_13 a_14 28 (fun _ => 0), zVi q_15 a_16 14 (fun _ => 0)]) [0, 1, 2, 3, 4, 5, 6, 7, 8] rfl
  have hD9 := hD.sub (ws' := [zV3 h0 q_1 q_5 0 0 q_7 q_9 q_11 q_13 0 q_15 0 0 0 0 (-1) (-1), zV7 q_1 (u_3.1 0) 0 0, zVl (u_3.1 0) (u_3.1 1) 14 (fun _ => 0), zVi q_5 a_6 14 (fun _ => 0), zVi q_7 a_8 14 (fun _ => 0), zVi q_9 a_10 14 (fun _ => 0), zVi q_11 a_12 28 (fun _ => 0), zVi q_13 a_14 28 (fun _ => 0), zVi q_15 a_16 14 (fun _ => 0)]) [0, 1, 2, 3, 4, 5, 6, 7, 8] (by decide) rfl
  have hK9 := hK.sub (tys' := [((u_3.1 1), .long), (a_6, .int), (a_8, .boolean), (a_10, .int), (a_12, .int), (a_14, .int), (a_16, .int)]) [0, 1, 2, 3, 4, 5, 6] rfl
  refine W.widen (k := 8) (n := 129) (Nat.le_of_ble_eq_true rfl) (Nat.le_of_ble_eq_true rfl) ?_
  exact W.vret hx hb hr (fun t ht hW => ⟨⟨((fun k => ([q_1, q_5, q_7, q_9, q_11, q_13, q_15, (u_3.1 0), (u_3.1 1), a_6, a_8, a_10, a_12, a_14, a_16] : List Nat).getD k 0), (fun k => ([] : List (Nat → Int32)).getD k (fun _ => 0))), rfl, trivial, by rw [ht]; exact hP9, va_K.moved hW.alike hK9, hD9⟩, hS.F ht⟩) hS.2.2 dX3_init_73
set_option maxHeartbeats 4000000 in
set_option maxRecDepth 100000 in
theorem zc16_X0_init (l : Launch) (dC : Nat → ClassId) (dI : Nat → Nat → Nat) (h0 : Nat) (sz : Nat) : Met l yX0_init wsX0_init ({ frames := 2, cells := 7, slots := 76, locals := 40 }) (va_Pc [.ref h0] (fun U => va_Nw (.methodLinkNest RX0 11 yX6_init RX11) U ∧ va_Nw (.methodLinkNest RX0 20 yX7_init RX11) U ∧ U.heap.size = sz ∧ va_P (dC, dI) vwCl [(h0, .inr (0, [.null, .null, .null, .int 0, .int 0]))] U.heap ∧ va_K (dC, dI) vwCl [] U ∧ va_D (fun _ => True) [(h0, .inr (0, [.null, .null, .null, .int 0, .int 0]))])) (va_Qv (fun (u : zU) => True) (fun u t => va_P (dC, dI) vwCl [zV0 h0 (u.1 0) (u.1 1) (u.1 2) (-1) (-1), zV6 (u.1 0) (u.1 3) (u.1 4) (u.1 5), zVl (u.1 3) (u.1 6) 14 (fun _ => 0), zVl (u.1 4) (u.1 7) 14 (fun _ => 0), zVi (u.1 5) (u.1 8) 14 (fun _ => 0), zV7 (u.1 1) (u.1 9) 0 0, zVl (u.1 9) (u.1 10) 14 (fun _ => 0), zVi (u.1 2) (u.1 11) 14 (fun _ => 0)] t.heap ∧ va_K (dC, dI) vwCl [((u.1 6), .long), ((u.1 7), .long), ((u.1 8), .boolean), ((u.1 10), .long), ((u.1 11), .int)] t ∧ va_D (va_A [(h0, .inr (0, [.null, .null, .null, .int 0, .int 0]))] sz) [zV0 h0 (u.1 0) (u.1 1) (u.1 2) (-1) (-1), zV6 (u.1 0) (u.1 3) (u.1 4) (u.1 5), zVl (u.1 3) (u.1 6) 14 (fun _ => 0), zVl (u.1 4) (u.1 7) 14 (fun _ => 0), zVi (u.1 5) (u.1 8) 14 (fun _ => 0), zV7 (u.1 1) (u.1 9) 0 0, zVl (u.1 9) (u.1 10) 14 (fun _ => 0), zVi (u.1 2) (u.1 11) 14 (fun _ => 0)]) (va_A [(h0, .inr (0, [.null, .null, .null, .int 0, .int 0]))] sz)) 7 76 (va_A [(h0, .inr (0, [.null, .null, .null, .int 0, .int 0]))] sz) := by
  refine Met.ofW (cc := cX0_init) (maxL := 1) (ret := none) (by decide +kernel) rfl ?_
  intro p e s m args below meth c s₁ B hml hv
  obtain ⟨rfl, hn0, hn1, hsz, hP, hK, hD0⟩ := hv
  have hx := B.exec
  have hb := B.bytes
  have hr := B.returns
  have hts := atoms_spec (ws := wsX0_init) B.pre
  have hown : s.vm.findClass RX0 = some m.cls := (findClass_of_methodNamed B.named :)
  have hlocks := B.notSynchronized
  have hin : meth.name = "<init>" := (name_of_methodNamed B.named B.method).1
  subst hsz
  replace hD := hD0.self (sz := s.heap.size)
  generalize hAe : va_A [(h0, .inr (0, [.null, .null, .null, .int 0, .int 0]))] s.heap.size = A at hD ⊢
  have hA : ∀ q : Nat, s.heap.size ≤ q → A q := fun q h => by rw [← hAe]; exact Or.inr h
  have hS : va_S A s.heap s.heap [] := va_S.rf
  replace hP : va_P (dC, dI) vwCl [(h0, .inr (0, [.null, .null, .null, .int 0, .int 0]))] s.heap := hP
  have hl := lv_entry ([.ref h0]) (n := 1) (Nat.le_of_ble_eq_true rfl)
  rw [lg_entry_eq]
  generalize (lg_sl ([.ref h0]) ++ List.replicate (1 - (lg_sl ([.ref h0])).length) Slot.unset).toArray = ls at hl ⊢
  have hl : lv_has ls 1 [(0, .ref h0)] := hl
  refine lv_aload_n hx hb dX0_init_0 rfl (lv_at hl 0 rfl) ?_
  refine W.objInit hx hb hown (hts (.methodLink RX0 3 objectInit) zw_X0_init_181) (hts (.instanceMethod objectInit) zw_X0_init_182) (hts (.code objectInit ⟨#[0xb1]⟩ 1 none) zw_X0_init_183) rfl (by rw [hml]; exact hl.1) rfl dX0_init_1 (Nat.le_of_ble_eq_true rfl) (Nat.le_of_ble_eq_true rfl) ?_
  refine W.eq (g2 := F0 m 4 ls []) rfl ?_
  refine lv_aload_n hx hb dX0_init_4 rfl (lv_at hl 0 rfl) ?_
  refine va_new (ci := 6) (fs := [.null, .null, .null]) (C := RX6) (T := TX6) (N := 3) hx hb hts zn_X0_init_X6 tyX6 tyX6_ok hown (hts (.classLink RX0 9 RX6) zw_X0_init_185) (hts (.instantiable RX6 3) zw_X0_init_186) (hts (.initialized RX6) zw_X0_init_187) hK hP hD hS hA rfl zd_X6 (Nat.le_of_ble_eq_true rfl) (Nat.le_of_ble_eq_true rfl) dX0_init_5 (fun q_1 H hP hD hS => ?_)
  replace hP : va_P (dC, dI) vwCl [(h0, .inr (0, [.null, .null, .null, .int 0, .int 0])), (q_1, .inr (6, [.null, .null, .null]))] H := hP
  replace hD := zDW hD hP rfl
  refine W.widen (k := 1) (n := 3) (Nat.le_of_ble_eq_true rfl) (Nat.le_of_ble_eq_true rfl) ?_
  refine lv_dup hx hb dX0_init_8 rfl ?_
  replace hPc := hP.sub (ws' := [(q_1, .inr (6, [.null, .null, .null]))]) [1] rfl
  replace hDc := hD.sub (ws' := [(q_1, .inr (6, [.null, .null, .null]))]) [1] (by decide) rfl
  replace hKc := hK.sub (tys' := []) [] rfl
  replace hFc := va_free (wc := [(q_1, .inr (6, [.null, .null, .null]))]) hD hS hA [1] rfl
  refine va_callv (va_runIN (As := []) (rest := [.ref q_1, .ref h0]) ⟨hx, hb, hml, hown, hts⟩ (zc11_X6_init l dC dI q_1 H.size) ⟨va_cnB (host := RX11) 0 hts gX0_init_X6_init_n11 rfl rfl rfl hn0 (hts (.initialized RX6) zw_X0_init_187) (by decide +kernel) ⟨Nat.le_of_ble_eq_true rfl, Nat.le_of_ble_eq_true rfl⟩, rfl, (hts (.instanceMethod yX6_init) zw_X0_init_188)⟩ ⟨fun a U g mk q => by obtain ⟨q0, q1, qP, qK, qD⟩ := q; exact ⟨q0, q1, qP, va_K.moved (u := U) (U := U.calling g mk a) (Vm.Alike.refl U.vm) qK, qD⟩, fun U hU hW => ⟨rfl, by rw [hU], by rw [hU]; exact hPc, va_K.moved hW.alike hKc, hDc.weaken (fun _ _ _ _ => trivial)⟩⟩ rfl rfl hl.1 rfl (lv_room (Nat.le_of_ble_eq_true rfl)) dX0_init_9 ⟨Nat.le_of_ble_eq_true rfl, Nat.le_of_ble_eq_true rfl⟩) hS (fun q _ h => hFc q h) hFc (fun u_3 t H1 locs ht hvm hw_4 hB hz1 hk1 hS => ?_)
  obtain ⟨hP1, hK1, hD1⟩ := hB
  rw [ht] at hP1
  replace hK1 := va_K.moved hvm.symm hK1
  obtain ⟨hP, hD⟩ := va_join (wr := [(h0, .inr (0, [.null, .null, .null, .int 0, .int 0]))]) (w1 := [zV6 q_1 (u_3.1 0) (u_3.1 1) (u_3.1 2), zVl (u_3.1 0) (u_3.1 3) 14 (fun _ => 0), zVl (u_3.1 1) (u_3.1 4) 14 (fun _ => 0), zVi (u_3.1 2) (u_3.1 5) 14 (fun _ => 0)]) hP hD [1] [0] rfl rfl (by decide) (by decide) hk1 hFc hP1 hD1
  replace hK := hK.app hK1
  generalize H1 = H at hP hS ⊢
  replace hP : va_P (dC, dI) vwCl [(h0, .inr (0, [.null, .null, .null, .int 0, .int 0])), zV6 q_1 (u_3.1 0) (u_3.1 1) (u_3.1 2), zVl (u_3.1 0) (u_3.1 3) 14 (fun _ => 0), zVl (u_3.1 1) (u_3.1 4) 14 (fun _ => 0), zVi (u_3.1 2) (u_3.1 5) 14 (fun _ => 0)] H := hP
  replace hD := zDW hD hP rfl
  replace hK : va_K (dC, dI) vwCl [((u_3.1 3), .long), ((u_3.1 4), .long), ((u_3.1 5), .boolean)] s := hK
  refine W.widen (k := 4) (n := 45) (Nat.le_of_ble_eq_true rfl) (Nat.le_of_ble_eq_true rfl) ?_
  refine va_putF (D := (dC, dI)) (ci := 0) (v := .ref q_1) (ty := .object "ShortEnough$Ranges") (C := RX0) (T := TX0) (N := 5) hx hb hts zn_X0_init_X0 tyX0 tyX0_ok nmX0 hown hK hP hD hS 0 rfl rfl 0 (by decide) (hts (.fieldLink RX0 12 "ShortEnough$CertificateReader" "said" "LShortEnough$Ranges;") zw_X0_init_190) (fun _ h9 => h9) rfl hin rfl (by decide +kernel) rfl rfl (Nat.le_of_ble_eq_true rfl) dX0_init_12 ?_
  clear hP hD hS
  intro H locs hP hD hS
  replace hP : va_P (dC, dI) vwCl [(h0, .inr (0, [.ref q_1, .null, .null, .int 0, .int 0])), zV6 q_1 (u_3.1 0) (u_3.1 1) (u_3.1 2), zVl (u_3.1 0) (u_3.1 3) 14 (fun _ => 0), zVl (u_3.1 1) (u_3.1 4) 14 (fun _ => 0), zVi (u_3.1 2) (u_3.1 5) 14 (fun _ => 0)] H := hP
  replace hD := zDW hD hP rfl
  refine lv_aload_n hx hb dX0_init_15 rfl (lv_at hl 0 rfl) ?_
  refine va_new (ci := 7) (fs := [.null, .int 0, .int 0]) (C := RX7) (T := TX7) (N := 3) hx hb hts zn_X0_init_X7 tyX7 tyX7_ok hown (hts (.classLink RX0 18 RX7) zw_X0_init_192) (hts (.instantiable RX7 3) zw_X0_init_193) (hts (.initialized RX7) zw_X0_init_194) hK hP hD hS hA rfl zd_X7 (Nat.le_of_ble_eq_true rfl) (Nat.le_of_ble_eq_true rfl) dX0_init_16 (fun q_5 H hP hD hS => ?_)
  replace hP : va_P (dC, dI) vwCl [(h0, .inr (0, [.ref q_1, .null, .null, .int 0, .int 0])), zV6 q_1 (u_3.1 0) (u_3.1 1) (u_3.1 2), zVl (u_3.1 0) (u_3.1 3) 14 (fun _ => 0), zVl (u_3.1 1) (u_3.1 4) 14 (fun _ => 0), zVi (u_3.1 2) (u_3.1 5) 14 (fun _ => 0), (q_5, .inr (7, [.null, .int 0, .int 0]))] H := hP
  replace hD := zDW hD hP rfl
  refine W.widen (k := 5) (n := 48) (Nat.le_of_ble_eq_true rfl) (Nat.le_of_ble_eq_true rfl) ?_
  refine lv_dup hx hb dX0_init_19 rfl ?_
  replace hPc := hP.sub (ws' := [(q_5, .inr (7, [.null, .int 0, .int 0]))]) [5] rfl
  replace hDc := hD.sub (ws' := [(q_5, .inr (7, [.null, .int 0, .int 0]))]) [5] (by decide) rfl
  replace hKc := hK.sub (tys' := []) [] rfl
  replace hFc := va_free (wc := [(q_5, .inr (7, [.null, .int 0, .int 0]))]) hD hS hA [5] rfl
  refine va_callv (va_runIN (As := []) (rest := [.ref q_5, .ref h0]) ⟨hx, hb, hml, hown, hts⟩ (zc13_X7_init l dC dI q_5 H.size) ⟨va_cnB (host := RX11) 0 hts gX0_init_X7_init_n20 rfl rfl rfl hn1 (hts (.initialized RX7) zw_X0_init_194) (by decide +kernel) ⟨Nat.le_of_ble_eq_true rfl, Nat.le_of_ble_eq_true rfl⟩, rfl, (hts (.instanceMethod yX7_init) zw_X0_init_195)⟩ ⟨fun a U g mk q => by obtain ⟨q0, q1, qP, qK, qD⟩ := q; exact ⟨q0, q1, qP, va_K.moved (u := U) (U := U.calling g mk a) (Vm.Alike.refl U.vm) qK, qD⟩, fun U hU hW => ⟨rfl, by rw [hU], by rw [hU]; exact hPc, va_K.moved hW.alike hKc, hDc.weaken (fun _ _ _ _ => trivial)⟩⟩ rfl rfl hl.1 rfl (lv_room (Nat.le_of_ble_eq_true rfl)) dX0_init_20 ⟨Nat.le_of_ble_eq_true rfl, Nat.le_of_ble_eq_true rfl⟩) hS (fun q _ h => hFc q h) hFc (fun u_7 t H1 locs ht hvm hw_8 hB hz1 hk1 hS => ?_)
  obtain ⟨hP1, hK1, hD1⟩ := hB
  rw [ht] at hP1
  replace hK1 := va_K.moved hvm.symm hK1
  obtain ⟨hP, hD⟩ := va_join (wr := [(h0, .inr (0, [.ref q_1, .null, .null, .int 0, .int 0])), zV6 q_1 (u_3.1 0) (u_3.1 1) (u_3.1 2), zVl (u_3.1 0) (u_3.1 3) 14 (fun _ => 0), zVl (u_3.1 1) (u_3.1 4) 14 (fun _ => 0), zVi (u_3.1 2) (u_3.1 5) 14 (fun _ => 0)]) (w1 := [zV7 q_5 (u_7.1 0) 0 0, zVl (u_7.1 0) (u_7.1 1) 14 (fun _ => 0)]) hP hD [5] [0, 1, 2, 3, 4] rfl rfl (by decide) (by decide) hk1 hFc hP1 hD1
  replace hK := hK.app hK1
  generalize H1 = H at hP hS ⊢
  replace hP : va_P (dC, dI) vwCl [(h0, .inr (0, [.ref q_1, .null, .null, .int 0, .int 0])), zV6 q_1 (u_3.1 0) (u_3.1 1) (u_3.1 2), zVl (u_3.1 0) (u_3.1 3) 14 (fun _ => 0), zVl (u_3.1 1) (u_3.1 4) 14 (fun _ => 0), zVi (u_3.1 2) (u_3.1 5) 14 (fun _ => 0), zV7 q_5 (u_7.1 0) 0 0, zVl (u_7.1 0) (u_7.1 1) 14 (fun _ => 0)] H := hP
  replace hD := zDW hD hP rfl
  replace hK : va_K (dC, dI) vwCl [((u_3.1 3), .long), ((u_3.1 4), .long), ((u_3.1 5), .boolean), ((u_7.1 1), .long)] s := hK
  refine W.widen (k := 6) (n := 62) (Nat.le_of_ble_eq_true rfl) (Nat.le_of_ble_eq_true rfl) ?_
  refine va_putF (D := (dC, dI)) (ci := 0) (v := .ref q_5) (ty := .object "ShortEnough$Reckoning") (C := RX0) (T := TX0) (N := 5) hx hb hts zn_X0_init_X0 tyX0 tyX0_ok nmX0 hown hK hP hD hS 0 rfl rfl 1 (by decide) (hts (.fieldLink RX0 21 "ShortEnough$CertificateReader" "saidErrors" "LShortEnough$Reckoning;") zw_X0_init_196) (fun _ h9 => h9) rfl hin rfl (by decide +kernel) rfl rfl (Nat.le_of_ble_eq_true rfl) dX0_init_23 ?_
  clear hP hD hS
  intro H locs hP hD hS
  replace hP : va_P (dC, dI) vwCl [(h0, .inr (0, [.ref q_1, .ref q_5, .null, .int 0, .int 0])), zV6 q_1 (u_3.1 0) (u_3.1 1) (u_3.1 2), zVl (u_3.1 0) (u_3.1 3) 14 (fun _ => 0), zVl (u_3.1 1) (u_3.1 4) 14 (fun _ => 0), zVi (u_3.1 2) (u_3.1 5) 14 (fun _ => 0), zV7 q_5 (u_7.1 0) 0 0, zVl (u_7.1 0) (u_7.1 1) 14 (fun _ => 0)] H := hP
  replace hD := zDW hD hP rfl
  refine lv_aload_n hx hb dX0_init_26 rfl (lv_at hl 0 rfl) ?_
  refine lv_bipush (v := 14) hx hb dX0_init_27 zcb_14 ?_
  refine va_newa (atype := .int) (ty := .int) (N' := 14) (a0 := (14, .inl (fun _ => 0))) hx hb (hts (.arrayClass .int) zw_X0_init_197) rfl hK hP hD hS hA (fun _ => rfl) (by decide +kernel) (by decide +kernel) (Nat.le_of_ble_eq_true rfl) (Nat.le_of_ble_eq_true rfl) (Nat.le_of_ble_eq_true rfl) dX0_init_29 (fun q_9 a_10 H hK hP hD hS => ?_)
  replace hP : va_P (dC, dI) vwCl [(h0, .inr (0, [.ref q_1, .ref q_5, .null, .int 0, .int 0])), zV6 q_1 (u_3.1 0) (u_3.1 1) (u_3.1 2), zVl (u_3.1 0) (u_3.1 3) 14 (fun _ => 0), zVl (u_3.1 1) (u_3.1 4) 14 (fun _ => 0), zVi (u_3.1 2) (u_3.1 5) 14 (fun _ => 0), zV7 q_5 (u_7.1 0) 0 0, zVl (u_7.1 0) (u_7.1 1) 14 (fun _ => 0), zVi q_9 a_10 14 (fun _ => 0)] H := hP
  replace hD := zDW hD hP rfl
  replace hK : va_K (dC, dI) vwCl [((u_3.1 3), .long), ((u_3.1 4), .long), ((u_3.1 5), .boolean), ((u_7.1 1), .long), (a_10, .int)] s := hK
  refine W.widen (k := 7) (n := 76) (Nat.le_of_ble_eq_true rfl) (Nat.le_of_ble_eq_true rfl) ?_
  refine va_putF (D := (dC, dI)) (ci := 0) (v := .ref q_9) (ty := .array .int) (C := RX0) (T := TX0) (N := 5) hx hb hts zn_X0_init_X0 tyX0 tyX0_ok nmX0 hown hK hP hD hS 0 rfl rfl 2 (by decide) (hts (.fieldLink RX0 25 "ShortEnough$CertificateReader" "choice" "[I") zw_X0_init_198) (fun _ h9 => h9) rfl hin rfl (by decide +kernel) rfl rfl (Nat.le_of_ble_eq_true rfl) dX0_init_31 ?_
  clear hP hD hS
  intro H locs hP hD hS
  replace hP : va_P (dC, dI) vwCl [zV0 h0 q_1 q_5 q_9 0 0, zV6 q_1 (u_3.1 0) (u_3.1 1) (u_3.1 2), zVl (u_3.1 0) (u_3.1 3) 14 (fun _ => 0), zVl (u_3.1 1) (u_3.1 4) 14 (fun _ => 0), zVi (u_3.1 2) (u_3.1 5) 14 (fun _ => 0), zV7 q_5 (u_7.1 0) 0 0, zVl (u_7.1 0) (u_7.1 1) 14 (fun _ => 0), zVi q_9 a_10 14 (fun _ => 0)] H := hP
  replace hD := zDW hD hP rfl
  refine lv_aload_n hx hb dX0_init_34 rfl (lv_at hl 0 rfl) ?_
  refine lv_iconst (v := (-1)) hx hb dX0_init_35 zci_m1 ?_
  refine va_put (D := (dC, dI)) (ci := 0) (v := .int (-1)) (ty := .int) (C := RX0) (T := TX0) (N := 5) hx hb hts zn_X0_init_X0 tyX0 tyX0_ok nmX0 hown hK hP hD hS 0 rfl rfl 3 (by decide) (hts (.fieldLink RX0 29 "ShortEnough$CertificateReader" "breaksAt" "I") zw_X0_init_199) (fun _ h9 => h9) rfl (by decide +kernel) rfl rfl (Nat.le_of_ble_eq_true rfl) dX0_init_36 ?_
  clear hP hD hS
  intro H locs hP hD hS
  replace hP : va_P (dC, dI) vwCl [zV0 h0 q_1 q_5 q_9 (-1) 0, zV6 q_1 (u_3.1 0) (u_3.1 1) (u_3.1 2), zVl (u_3.1 0) (u_3.1 3) 14 (fun _ => 0), zVl (u_3.1 1) (u_3.1 4) 14 (fun _ => 0), zVi (u_3.1 2) (u_3.1 5) 14 (fun _ => 0), zV7 q_5 (u_7.1 0) 0 0, zVl (u_7.1 0) (u_7.1 1) 14 (fun _ => 0), zVi q_9 a_10 14 (fun _ => 0)] H := hP
  replace hD := zDW hD hP rfl
  refine lv_aload_n hx hb dX0_init_39 rfl (lv_at hl 0 rfl) ?_
  refine lv_iconst (v := (-1)) hx hb dX0_init_40 zci_m1 ?_
  refine va_put (D := (dC, dI)) (ci := 0) (v := .int (-1)) (ty := .int) (C := RX0) (T := TX0) (N := 5) hx hb hts zn_X0_init_X0 tyX0 tyX0_ok nmX0 hown hK hP hD hS 0 rfl rfl 4 (by decide) (hts (.fieldLink RX0 33 "ShortEnough$CertificateReader" "reason" "I") zw_X0_init_200) (fun _ h9 => h9) rfl (by decide +kernel) rfl rfl (Nat.le_of_ble_eq_true rfl) dX0_init_41 ?_
  clear hP hD hS
  intro H locs hP hD hS
  replace hP : va_P (dC, dI) vwCl [zV0 h0 q_1 q_5 q_9 (-1) (-1), zV6 q_1 (u_3.1 0) (u_3.1 1) (u_3.1 2), zVl (u_3.1 0) (u_3.1 3) 14 (fun _ => 0), zVl (u_3.1 1) (u_3.1 4) 14 (fun _ => 0), zVi (u_3.1 2) (u_3.1 5) 14 (fun _ => 0), zV7 q_5 (u_7.1 0) 0 0, zVl (u_7.1 0) (u_7.1 1) 14 (fun _ => 0), zVi q_9 a_10 14 (fun _ => 0)] H := hP
  replace hD := zDW hD hP rfl
  have hP9 := hP.sub (ws' := [zV0 h0 q_1 q_5 q_9 (-1) (-1), zV6 q_1 (u_3.1 0) (u_3.1 1) (u_3.1 2), zVl (u_3.1 0) (u_3.1 3) 14 (fun _ => 0), zVl (u_3.1 1) (u_3.1 4) 14 (fun _ => 0), zVi (u_3.1 2) (u_3.1 5) 14 (fun _ => 0), zV7 q_5 (u_7.1 0) 0 0, zVl (u_7.1 0) (u_7.1 1) 14 (fun _ => 0), zVi q_9 a_10 14 (fun _ => 0)]) [0, 1, 2, 3, 4, 5, 6, 7] rfl
  have hD9 := hD.sub (ws' := [zV0 h0 q_1 q_5 q_9 (-1) (-1), zV6 q_1 (u_3.1 0) (u_3.1 1) (u_3.1 2), zVl (u_3.1 0) (u_3.1 3) 14 (fun _ => 0), zVl (u_3.1 1) (u_3.1 4) 14 (fun _ => 0), zVi (u_3.1 2) (u_3.1 5) 14 (fun _ => 0), zV7 q_5 (u_7.1 0) 0 0, zVl (u_7.1 0) (u_7.1 1) 14 (fun _ => 0), zVi q_9 a_10 14 (fun _ => 0)]) [0, 1, 2, 3, 4, 5, 6, 7] (by decide) rfl
  have hK9 := hK.sub (tys' := [((u_3.1 3), .long), ((u_3.1 4), .long), ((u_3.1 5), .boolean), ((u_7.1 1), .long), (a_10, .int)]) [0, 1, 2, 3, 4] rfl
  refine W.widen (k := 7) (n := 76) (Nat.le_of_ble_eq_true rfl) (Nat.le_of_ble_eq_true rfl) ?_
  exact W.vret hx hb hr (fun t ht hW => ⟨⟨((fun k => ([q_1, q_5, q_9, (u_3.1 0), (u_3.1 1), (u_3.1 2), (u_3.1 3), (u_3.1 4), (u_3.1 5), (u_7.1 0), (u_7.1 1), a_10] : List Nat).getD k 0), (fun k => ([] : List (Nat → Int32)).getD k (fun _ => 0))), rfl, trivial, by rw [ht]; exact hP9, va_K.moved hW.alike hK9, hD9⟩, hS.F ht⟩) hS.2.2 dX0_init_44
set_option maxHeartbeats 4000000 in
set_option maxRecDepth 100000 in
theorem zc17_X8_init (l : Launch) (dC : Nat → ClassId) (dI : Nat → Nat → Nat) (h0 : Nat) (sz : Nat) : Met l yX8_init wsX8_init ({ frames := 1, cells := 2, slots := 28, locals := 20 }) (va_Pc [.ref h0] (fun U => U.heap.size = sz ∧ va_P (dC, dI) vwCl [(h0, .inr (8, [.null, .null]))] U.heap ∧ va_K (dC, dI) vwCl [] U ∧ va_D (fun _ => True) [(h0, .inr (8, [.null, .null]))])) (va_Qv (fun (u : zU) => True) (fun u t => va_P (dC, dI) vwCl [zV8 h0 (u.1 0) (u.1 1), zVl (u.1 0) (u.1 2) 14 (fun _ => 0), zVl (u.1 1) (u.1 3) 14 (fun _ => 0)] t.heap ∧ va_K (dC, dI) vwCl [((u.1 2), .long), ((u.1 3), .long)] t ∧ va_D (va_A [(h0, .inr (8, [.null, .null]))] sz) [zV8 h0 (u.1 0) (u.1 1), zVl (u.1 0) (u.1 2) 14 (fun _ => 0), zVl (u.1 1) (u.1 3) 14 (fun _ => 0)]) (va_A [(h0, .inr (8, [.null, .null]))] sz)) 2 28 (va_A [(h0, .inr (8, [.null, .null]))] sz) := by
  refine Met.ofW (cc := cX8_init) (maxL := 1) (ret := none) (by decide +kernel) rfl ?_
  intro p e s m args below meth c s₁ B hml hv
  obtain ⟨rfl, hsz, hP, hK, hD0⟩ := hv
  have hx := B.exec
  have hb := B.bytes
  have hr := B.returns
  have hts := atoms_spec (ws := wsX8_init) B.pre
  have hown : s.vm.findClass RX8 = some m.cls := (findClass_of_methodNamed B.named :)
  have hlocks := B.notSynchronized
  have hin : meth.name = "<init>" := (name_of_methodNamed B.named B.method).1
  subst hsz
  replace hD := hD0.self (sz := s.heap.size)
  generalize hAe : va_A [(h0, .inr (8, [.null, .null]))] s.heap.size = A at hD ⊢
  have hA : ∀ q : Nat, s.heap.size ≤ q → A q := fun q h => by rw [← hAe]; exact Or.inr h
  have hS : va_S A s.heap s.heap [] := va_S.rf
  replace hP : va_P (dC, dI) vwCl [(h0, .inr (8, [.null, .null]))] s.heap := hP
  have hl := lv_entry ([.ref h0]) (n := 1) (Nat.le_of_ble_eq_true rfl)
  rw [lg_entry_eq]
  generalize (lg_sl ([.ref h0]) ++ List.replicate (1 - (lg_sl ([.ref h0])).length) Slot.unset).toArray = ls at hl ⊢
  have hl : lv_has ls 1 [(0, .ref h0)] := hl
  refine lv_aload_n hx hb dX8_init_0 rfl (lv_at hl 0 rfl) ?_
  refine W.objInit hx hb hown (hts (.methodLink RX8 3 objectInit) zw_X8_init_207) (hts (.instanceMethod objectInit) zw_X8_init_208) (hts (.code objectInit ⟨#[0xb1]⟩ 1 none) zw_X8_init_209) rfl (by rw [hml]; exact hl.1) rfl dX8_init_1 (Nat.le_of_ble_eq_true rfl) (Nat.le_of_ble_eq_true rfl) ?_
  refine W.eq (g2 := F0 m 4 ls []) rfl ?_
  refine lv_aload_n hx hb dX8_init_4 rfl (lv_at hl 0 rfl) ?_
  refine lv_bipush (v := 14) hx hb dX8_init_5 zcb_14 ?_
  refine va_newa (atype := .long) (ty := .long) (N' := 14) (a0 := (14, .inr (.inl (fun _ => 0)))) hx hb (hts (.arrayClass .long) zw_X8_init_210) rfl hK hP hD hS hA (fun _ => rfl) (by decide +kernel) (by decide +kernel) (Nat.le_of_ble_eq_true rfl) (Nat.le_of_ble_eq_true rfl) (Nat.le_of_ble_eq_true rfl) dX8_init_7 (fun q_1 a_2 H hK hP hD hS => ?_)
  replace hP : va_P (dC, dI) vwCl [(h0, .inr (8, [.null, .null])), zVl q_1 a_2 14 (fun _ => 0)] H := hP
  replace hD := zDW hD hP rfl
  replace hK : va_K (dC, dI) vwCl [(a_2, .long)] s := hK
  refine W.widen (k := 1) (n := 14) (Nat.le_of_ble_eq_true rfl) (Nat.le_of_ble_eq_true rfl) ?_
  refine va_putF (D := (dC, dI)) (ci := 8) (v := .ref q_1) (ty := .array .long) (C := RX8) (T := TX8) (N := 2) hx hb hts zn_X8_init_X8 tyX8 tyX8_ok nmX8 hown hK hP hD hS 0 rfl rfl 0 (by decide) (hts (.fieldLink RX8 9 "ShortEnough$Sampler" "exact" "[J") zw_X8_init_212) (fun _ h9 => h9) rfl hin rfl (by decide +kernel) rfl rfl (Nat.le_of_ble_eq_true rfl) dX8_init_9 ?_
  clear hP hD hS
  intro H locs hP hD hS
  replace hP : va_P (dC, dI) vwCl [(h0, .inr (8, [.ref q_1, .null])), zVl q_1 a_2 14 (fun _ => 0)] H := hP
  replace hD := zDW hD hP rfl
  refine lv_aload_n hx hb dX8_init_12 rfl (lv_at hl 0 rfl) ?_
  refine lv_bipush (v := 14) hx hb dX8_init_13 zcb_14 ?_
  refine va_newa (atype := .long) (ty := .long) (N' := 14) (a0 := (14, .inr (.inl (fun _ => 0)))) hx hb (hts (.arrayClass .long) zw_X8_init_210) rfl hK hP hD hS hA (fun _ => rfl) (by decide +kernel) (by decide +kernel) (Nat.le_of_ble_eq_true rfl) (Nat.le_of_ble_eq_true rfl) (Nat.le_of_ble_eq_true rfl) dX8_init_15 (fun q_3 a_4 H hK hP hD hS => ?_)
  replace hP : va_P (dC, dI) vwCl [(h0, .inr (8, [.ref q_1, .null])), zVl q_1 a_2 14 (fun _ => 0), zVl q_3 a_4 14 (fun _ => 0)] H := hP
  replace hD := zDW hD hP rfl
  replace hK : va_K (dC, dI) vwCl [(a_2, .long), (a_4, .long)] s := hK
  refine W.widen (k := 2) (n := 28) (Nat.le_of_ble_eq_true rfl) (Nat.le_of_ble_eq_true rfl) ?_
  refine va_putF (D := (dC, dI)) (ci := 8) (v := .ref q_3) (ty := .array .long) (C := RX8) (T := TX8) (N := 2) hx hb hts zn_X8_init_X8 tyX8 tyX8_ok nmX8 hown hK hP hD hS 0 rfl rfl 1 (by decide) (hts (.fieldLink RX8 15 "ShortEnough$Sampler" "kept" "[J") zw_X8_init_213) (fun _ h9 => h9) rfl hin rfl (by decide +kernel) rfl rfl (Nat.le_of_ble_eq_true rfl) dX8_init_17 ?_
  clear hP hD hS
  intro H locs hP hD hS
  replace hP : va_P (dC, dI) vwCl [zV8 h0 q_1 q_3, zVl q_1 a_2 14 (fun _ => 0), zVl q_3 a_4 14 (fun _ => 0)] H := hP
  replace hD := zDW hD hP rfl
  have hP9 := hP.sub (ws' := [zV8 h0 q_1 q_3, zVl q_1 a_2 14 (fun _ => 0), zVl q_3 a_4 14 (fun _ => 0)]) [0, 1, 2] rfl
  have hD9 := hD.sub (ws' := [zV8 h0 q_1 q_3, zVl q_1 a_2 14 (fun _ => 0), zVl q_3 a_4 14 (fun _ => 0)]) [0, 1, 2] (by decide) rfl
  have hK9 := hK.sub (tys' := [(a_2, .long), (a_4, .long)]) [0, 1] rfl
  refine W.widen (k := 2) (n := 28) (Nat.le_of_ble_eq_true rfl) (Nat.le_of_ble_eq_true rfl) ?_
  exact W.vret hx hb hr (fun t ht hW => ⟨⟨((fun k => ([q_1, q_3, a_2, a_4] : List Nat).getD k 0), (fun k => ([] : List (Nat → Int32)).getD k (fun _ => 0))), rfl, trivial, by rw [ht]; exact hP9, va_K.moved hW.alike hK9, hD9⟩, hS.F ht⟩) hS.2.2 dX8_init_20
