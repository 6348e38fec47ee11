/-! loops, one alone or two side by side, where the answer is there -/
theorem zl_ip {σ ρ : Type} {B : σ → (σ → Option ρ) → Option ρ} {P : ρ → Prop} (I : σ → Prop) (hB : ∀ (s : σ) (back : σ → Option ρ) (o : ρ), I s → (∀ t o, I t → back t = some o → P o) → B s back = some o → P o) : ∀ (n : Nat) (s : σ) (o : ρ), I s → zl B n s = some o → P o := by
  intro n
  induction n with
  | zero => intro s o _ h; exact (zl_0 h).elim
  | succ n ih => intro s o hI h; exact hB s (zl B n) o hI (fun t o ht hb => ih t o ht hb) (zl_s rfl h)
theorem zl_ip2 {σ τ ρ κ : Type} {B : σ → (σ → Option ρ) → Option ρ} {D : τ → (τ → Option κ) → Option κ} {P : ρ → κ → Prop} (R : σ → τ → Prop) (hB : ∀ (s : σ) (t : τ) (k1 : σ → Option ρ) (k2 : τ → Option κ) (o1 : ρ) (o2 : κ), R s t → (∀ s t o1 o2, R s t → k1 s = some o1 → k2 t = some o2 → P o1 o2) → B s k1 = some o1 → D t k2 = some o2 → P o1 o2) : ∀ (n m : Nat) (s : σ) (t : τ) (o1 : ρ) (o2 : κ), R s t → zl B n s = some o1 → zl D m t = some o2 → P o1 o2 := by
  intro n
  induction n with
  | zero => intro m s t o1 o2 _ h _; exact (zl_0 h).elim
  | succ n ih =>
    intro m s t o1 o2 hR h1 h2
    cases m with
    | zero => exact (zl_0 h2).elim
    | succ m => exact hB s t (zl B n) (zl D m) o1 o2 hR (fun s t o1 o2 hR h1 h2 => ih m s t o1 o2 hR h1 h2) (zl_s rfl h1) (zl_s rfl h2)
/-! counts -/
noncomputable def zct (b : Nat → Bool) : Nat → Int32
  | 0 => 0
  | k + 1 => zct b k + (if b k = true then 1 else 0)
theorem zct_t {b : Nat → Bool} {p : Int32} (h0 : 0 ≤ p) (h1 : p ≤ 1200) (hb : b p.toNatClampNeg = true) : zct b (p + 1).toNatClampNeg = zct b p.toNatClampNeg + 1 := by
  rw [zNx h0 h1]
  show zct b p.toNatClampNeg + (if b p.toNatClampNeg = true then 1 else 0) = _
  rw [if_pos hb]
theorem zct_f {b : Nat → Bool} {p : Int32} (h0 : 0 ≤ p) (h1 : p ≤ 1200) (hb : ¬ b p.toNatClampNeg = true) : zct b (p + 1).toNatClampNeg = zct b p.toNatClampNeg := by
  rw [zNx h0 h1]
  show zct b p.toNatClampNeg + (if b p.toNatClampNeg = true then 1 else 0) = _
  rw [if_neg hb]
  exact Int32.add_zero _
theorem zct_b (b : Nat → Bool) : ∀ k : Nat, k ≤ 1000 → 0 ≤ (zct b k).toInt ∧ (zct b k).toInt ≤ (k : Int) := by
  intro k
  induction k with
  | zero => intro _; show 0 ≤ (0 : Int32).toInt ∧ (0 : Int32).toInt ≤ 0; rw [zi_0]; omega
  | succ k ih =>
    intro hk
    have h := ih (by omega)
    show 0 ≤ (zct b k + (if b k = true then 1 else 0)).toInt ∧ (zct b k + (if b k = true then 1 else 0)).toInt ≤ ((k + 1 : Nat) : Int)
    by_cases c : b k = true
    · rw [if_pos c]
      have := zo_add (x := zct b k) (y := 1) (z := zct b k + 1) rfl rfl zi_1' (by omega)
      omega
    · rw [if_neg c]
      have := zo_add (x := zct b k) (y := 0) (z := zct b k + 0) rfl rfl zi_0 (by omega)
      omega
theorem zct_m (b : Nat → Bool) (k : Nat) : ∀ j : Nat, k + j ≤ 1000 → (zct b k).toInt ≤ (zct b (k + j)).toInt := by
  intro j
  induction j with
  | zero => intro _; exact Int.le_refl _
  | succ j ih =>
    intro hk
    have h := ih (by omega)
    have hb := zct_b b (k + j) (by omega)
    have e : zct b (k + (j + 1)) = zct b (k + j) + (if b (k + j) = true then 1 else 0) := rfl
    by_cases c : b (k + j) = true
    · rw [if_pos c] at e
      have := zo_add (x := zct b (k + j)) (y := 1) e rfl zi_1' (by omega)
      omega
    · rw [if_neg c] at e
      have := zo_add (x := zct b (k + j)) (y := 0) e rfl zi_0 (by omega)
      omega
theorem zct_c {a b : Nat → Bool} : ∀ k : Nat, (∀ j : Nat, j < k → a j = b j) → zct a k = zct b k := by
  intro k
  induction k with
  | zero => intro _; rfl
  | succ k ih =>
    intro h
    show zct a k + (if a k = true then 1 else 0) = zct b k + (if b k = true then 1 else 0)
    rw [ih (fun j hj => h j (by omega)), h k (by omega)]
theorem zcl' {p c : Int32} (h0 : 0 ≤ p) (h1 : p < c) : p.toNatClampNeg < c.toNatClampNeg := by
  have a := Int32.le_iff_toInt_le.mp h0
  have b := Int32.lt_iff_toInt_lt.mp h1
  rw [zi_0] at a
  show p.toInt.toNat < c.toInt.toNat
  omega
theorem zcle {p c : Int32} (h0 : 0 ≤ p) (h1 : p ≤ c) : p.toNatClampNeg ≤ c.toNatClampNeg := by
  have a := Int32.le_iff_toInt_le.mp h0
  have b := Int32.le_iff_toInt_le.mp h1
  rw [zi_0] at a
  show p.toInt.toNat ≤ c.toInt.toNat
  omega
/-- each place below a count is one of 32 bits -/
theorem zof {k : Nat} {c : Int32} (h0 : 0 ≤ c) (h : k < c.toNatClampNeg) : 0 ≤ Int32.ofNat k ∧ Int32.ofNat k < c ∧ (Int32.ofNat k).toNatClampNeg = k := by
  have hc := (zofn c h0).2
  have hl := Int32.toInt_lt c
  have e : (Int32.ofNat k).toInt = (k : Int) := Int32.toInt_ofNat_of_lt (by omega)
  refine ⟨Int32.le_iff_toInt_le.mpr (by rw [zi_0, e]; omega), Int32.lt_iff_toInt_lt.mpr (by rw [e]; omega), ?_⟩
  show (Int32.ofNat k).toInt.toNat = k
  omega
theorem zct_b32 {b : Nat → Bool} {p : Int32} (h0 : 0 ≤ p) (h1 : p ≤ 14) : 0 ≤ zct b p.toNatClampNeg ∧ zct b p.toNatClampNeg ≤ p := by
  have hp := (zofn p h0).2
  have h2 := Int32.le_iff_toInt_le.mp h1
  rw [show (14 : Int32).toInt = 14 by decide +kernel] at h2
  have h := zct_b b p.toNatClampNeg (by omega)
  exact ⟨Int32.le_iff_toInt_le.mpr (by rw [zi_0]; exact h.1), Int32.le_iff_toInt_le.mpr (by omega)⟩
theorem zct_m32 {b : Nat → Bool} {p q : Int32} (h0 : 0 ≤ p) (h1 : p ≤ q) (h2 : q ≤ 14) : zct b p.toNatClampNeg ≤ zct b q.toNatClampNeg := by
  have hp := (zofn p h0).2
  have hq := (zofn q (by grind)).2
  have k1 := Int32.le_iff_toInt_le.mp h1
  have k2 := Int32.le_iff_toInt_le.mp h2
  rw [show (14 : Int32).toInt = 14 by decide +kernel] at k2
  have h := zct_m b p.toNatClampNeg (q.toNatClampNeg - p.toNatClampNeg) (by omega)
  rw [show p.toNatClampNeg + (q.toNatClampNeg - p.toNatClampNeg) = q.toNatClampNeg by omega] at h
  exact Int32.le_iff_toInt_le.mpr h
/-! a TASK that is at hand -/
noncomputable def zF0 (cF : Int32) (nF stp mst prc mNF mS mM mC : Nat → Int32) : Prop := ∀ i : Int32, 0 ≤ i → i < cF → zNm (nF i.toNatClampNeg) (mNF i.toNatClampNeg) ∧ stp i.toNatClampNeg = mS i.toNatClampNeg ∧ mst i.toNatClampNeg = mM i.toNatClampNeg ∧ prc i.toNatClampNeg = mC i.toNatClampNeg ∧ (1 ≤ stp i.toNatClampNeg ∧ stp i.toNatClampNeg ≤ 1000000) ∧ (1 ≤ mst i.toNatClampNeg ∧ mst i.toNatClampNeg ≤ 1000000000) ∧ (0 ≤ prc i.toNatClampNeg ∧ prc i.toNatClampNeg ≤ 999)
noncomputable def zN01 (i cF : Int32) (nN op fx al made amt lets mNN mO m1 m2 mX mW : Nat → Int32) (mA mB : Nat → Int64) : Prop :=
  zNm (nN i.toNatClampNeg) (mNN i.toNatClampNeg) ∧ op i.toNatClampNeg = mO i.toNatClampNeg ∧ fx i.toNatClampNeg = mX i.toNatClampNeg ∧ al i.toNatClampNeg = mW i.toNatClampNeg
  ∧ made (2 * i + 0).toNatClampNeg = m1 i.toNatClampNeg ∧ made (2 * i + 1).toNatClampNeg = m2 i.toNatClampNeg ∧ mA i.toNatClampNeg = (amt (2 * i + 0).toNatClampNeg).toInt64 ∧ mB i.toNatClampNeg = (amt (2 * i + 1).toNatClampNeg).toInt64
  ∧ (0 ≤ op i.toNatClampNeg ∧ op i.toNatClampNeg ≤ 5) ∧ ((-1) ≤ fx i.toNatClampNeg ∧ fx i.toNatClampNeg < cF) ∧ ((-1) ≤ al i.toNatClampNeg ∧ al i.toNatClampNeg ≤ 1000000)
  ∧ ((-1) ≤ made (2 * i + 0).toNatClampNeg ∧ made (2 * i + 0).toNatClampNeg < i) ∧ ((-1) ≤ made (2 * i + 1).toNatClampNeg ∧ made (2 * i + 1).toNatClampNeg < i)
  ∧ ((-10000000) ≤ amt (2 * i + 0).toNatClampNeg ∧ amt (2 * i + 0).toNatClampNeg ≤ 10000000) ∧ ((-10000000) ≤ amt (2 * i + 1).toNatClampNeg ∧ amt (2 * i + 1).toNatClampNeg ≤ 10000000)
  ∧ (op i.toNatClampNeg = 0 → made (2 * i + 0).toNatClampNeg = (-1) ∧ made (2 * i + 1).toNatClampNeg = (-1) ∧ amt (2 * i + 0).toNatClampNeg ≤ amt (2 * i + 1).toNatClampNeg)
  ∧ lets i.toNatClampNeg = zDeep (op i.toNatClampNeg) i made lets
noncomputable def zN0 (cN cF : Int32) (nN op fx al made amt lets mNN mO m1 m2 mX mW : Nat → Int32) (mA mB : Nat → Int64) : Prop := ∀ i : Int32, 0 ≤ i → i < cN → zN01 i cF nN op fx al made amt lets mNN mO m1 m2 mX mW mA mB
noncomputable def zG0 (cN : Int32) (jn mG : Nat → Int32) : Prop := (∀ i : Int32, 0 ≤ i → i < cN → 0 ≤ mG i.toNatClampNeg ∧ mG i.toNatClampNeg ≤ i ∧ mG (mG i.toNatClampNeg).toNatClampNeg = mG i.toNatClampNeg) ∧ (∀ i j : Int32, 0 ≤ i → i < cN → 0 ≤ j → j < cN → (jn i.toNatClampNeg = jn j.toNatClampNeg ↔ mG i.toNatClampNeg = mG j.toNatClampNeg))
noncomputable def zTN (cF cc cN inp : Int32) (nF nN stp mst prc al made amt op fx jn lets : Nat → Int32) (mF mN mNF mNN mS mM mC mW mCst mO m1 m2 mX mG : Nat → Int32) (mA mB : Nat → Int64) : Prop := (mF 0 = cF ∧ 0 ≤ cF ∧ cF ≤ 4) ∧ (mN 0 = cN ∧ 0 ≤ cN ∧ cN ≤ 14) ∧ (mCst 0 = cc ∧ 0 ≤ cc ∧ cc ≤ 999) ∧ (cN = 0 → cc = 0) ∧ (0 < cN → 0 < cF) ∧ inp = zCnt op cN.toNatClampNeg ∧ zF0 cF nF stp mst prc mNF mS mM mC ∧ zN0 cN cF nN op fx al made amt lets mNN mO m1 m2 mX mW mA mB ∧ zG0 cN jn mG
/-! the TASK that was read comes to be the one at hand -/
noncomputable def zCq (d k : Int32) (S T : Nat → Int32) : Prop := (∀ i : Int32, 0 ≤ i → i < k → T i.toNatClampNeg = S (d + i).toNatClampNeg) ∧ (∀ i : Int32, d ≤ i → T i.toNatClampNeg = S i.toNatClampNeg)
noncomputable def zCqL (d k : Int32) (S T : Nat → Int64) : Prop := (∀ i : Int32, 0 ≤ i → i < k → T i.toNatClampNeg = S (d + i).toNatClampNeg) ∧ (∀ i : Int32, d ≤ i → T i.toNatClampNeg = S i.toNatClampNeg)
theorem zCq_0 {d : Int32} {S : Nat → Int32} : zCq d 0 S S := ⟨fun i i1 i2 => absurd i2 (by grind), fun _ _ => rfl⟩
theorem zCqL_0 {d : Int32} {S : Nat → Int64} : zCqL d 0 S S := ⟨fun i i1 i2 => absurd i2 (by grind), fun _ _ => rfl⟩
theorem zCq_s {d k : Int32} {S T : Nat → Int32} (hd : 0 ≤ d ∧ d ≤ 14) (hk : 0 ≤ k ∧ k < d) (h : zCq d k S T) : zCq d (k + 1) S (upd T k.toNatClampNeg (T (d + k).toNatClampNeg)) := by
  refine ⟨fun i i1 i2 => ?_, fun i i1 => ?_⟩
  · rw [zup hk.1 i1]
    by_cases q : i = k
    · rw [if_pos q, q]; exact h.2 (d + k) (by (first | ((try clear h); grind) | grind))
    · rw [if_neg q]; exact h.1 i i1 (by (first | ((try clear h); grind) | grind))
  · rw [zup hk.1 (by (first | ((try clear h); grind) | grind)), if_neg (by (first | ((try clear h); grind) | grind))]; exact h.2 i i1
theorem zCqL_s {d k : Int32} {S T : Nat → Int64} (hd : 0 ≤ d ∧ d ≤ 14) (hk : 0 ≤ k ∧ k < d) (h : zCqL d k S T) : zCqL d (k + 1) S (vp_updL T k.toNatClampNeg (T (d + k).toNatClampNeg)) := by
  refine ⟨fun i i1 i2 => ?_, fun i i1 => ?_⟩
  · rw [zupL hk.1 i1]
    by_cases q : i = k
    · rw [if_pos q, q]; exact h.2 (d + k) (by (first | ((try clear h); grind) | grind))
    · rw [if_neg q]; exact h.1 i i1 (by (first | ((try clear h); grind) | grind))
  · rw [zupL hk.1 (by (first | ((try clear h); grind) | grind)), if_neg (by (first | ((try clear h); grind) | grind))]; exact h.2 i i1
noncomputable def zCpP (mF mN mCst mNF mNN mS mM mC mW mO m1 m2 mX mG : Nat → Int32) (mA mB : Nat → Int64) (x : (Nat → Int32) × (Nat → Int32) × (Nat → Int32) × (Nat → Int32) × (Nat → Int32) × (Nat → Int32) × (Nat → Int32) × (Nat → Int32) × (Nat → Int32) × (Nat → Int32) × (Nat → Int32) × (Nat → Int64) × (Nat → Int64) × (Nat → Int32) × (Nat → Int32) × (Nat → Int32)) : Prop := x.1 0 = mF 1 ∧ x.2.1 0 = mN 1 ∧ x.2.2.1 0 = mCst 1 ∧ zCq 4 4 mNF x.2.2.2.1 ∧ zCq 4 4 mS x.2.2.2.2.1 ∧ zCq 4 4 mM x.2.2.2.2.2.1 ∧ zCq 4 4 mC x.2.2.2.2.2.2.1 ∧ zCq 14 14 mNN x.2.2.2.2.2.2.2.1 ∧ zCq 14 14 mO x.2.2.2.2.2.2.2.2.1 ∧ zCq 14 14 m1 x.2.2.2.2.2.2.2.2.2.1 ∧ zCq 14 14 m2 x.2.2.2.2.2.2.2.2.2.2.1 ∧ zCqL 14 14 mA x.2.2.2.2.2.2.2.2.2.2.2.1 ∧ zCqL 14 14 mB x.2.2.2.2.2.2.2.2.2.2.2.2.1 ∧ zCq 14 14 mX x.2.2.2.2.2.2.2.2.2.2.2.2.2.1 ∧ zCq 14 14 mW x.2.2.2.2.2.2.2.2.2.2.2.2.2.2.1 ∧ zCq 14 14 mG x.2.2.2.2.2.2.2.2.2.2.2.2.2.2.2
set_option maxRecDepth 100000 in
set_option maxHeartbeats 4000000 in
theorem zCopy {mF mN mCst mNF mNN mS mM mC mW mO m1 m2 mX mG : Nat → Int32} {mA mB : Nat → Int64} {x : (Nat → Int32) × (Nat → Int32) × (Nat → Int32) × (Nat → Int32) × (Nat → Int32) × (Nat → Int32) × (Nat → Int32) × (Nat → Int32) × (Nat → Int32) × (Nat → Int32) × (Nat → Int32) × (Nat → Int64) × (Nat → Int64) × (Nat → Int32) × (Nat → Int32) × (Nat → Int32)} (h : fn_X12_copiesTask mF mN mCst mNF mS mM mC mNN mO m1 m2 mA mB mX mW mG = some x) : zCpP mF mN mCst mNF mNN mS mM mC mW mO m1 m2 mX mG mA mB x := by
  unfold fn_X12_copiesTask at h
  simp only [zn] at h
  refine zl_ip (P := zCpP mF mN mCst mNF mNN mS mM mC mW mO m1 m2 mX mG mA mB) (fun s => 0 ≤ s.1 ∧ s.1 ≤ 4 ∧ zCq 4 s.1 mNF s.2.1 ∧ zCq 4 s.1 mS s.2.2.1 ∧ zCq 4 s.1 mM s.2.2.2.1 ∧ zCq 4 s.1 mC s.2.2.2.2) ?_ _ _ _ ?_ h
  rotate_left
  · exact ⟨(show (0 : Int32) ≤ 0 by decide), (show (0 : Int32) ≤ 4 by decide), zCq_0, zCq_0, zCq_0, zCq_0⟩
  intro s back o ⟨H1, H2, A1, A2, A3, A4⟩ hb ho
  by_cases c : 4 ≤ s.1
  · rw [if_pos c] at ho
    have e : s.1 = 4 := by (first | ((try clear h); (try clear hb); (try clear ho); grind) | grind)
    rw [e] at A1 A2 A3 A4
    refine zl_ip (P := zCpP mF mN mCst mNF mNN mS mM mC mW mO m1 m2 mX mG mA mB) (fun t => 0 ≤ t.1 ∧ t.1 ≤ 14 ∧ zCq 14 t.1 mNN t.2.1 ∧ zCq 14 t.1 mO t.2.2.1 ∧ zCq 14 t.1 m1 t.2.2.2.1 ∧ zCq 14 t.1 m2 t.2.2.2.2.1 ∧ zCqL 14 t.1 mA t.2.2.2.2.2.1 ∧ zCqL 14 t.1 mB t.2.2.2.2.2.2.1 ∧ zCq 14 t.1 mX t.2.2.2.2.2.2.2.1 ∧ zCq 14 t.1 mW t.2.2.2.2.2.2.2.2.1 ∧ zCq 14 t.1 mG t.2.2.2.2.2.2.2.2.2) ?_ _ _ _ ?_ ho
    rotate_left
    · exact ⟨(show (0 : Int32) ≤ 0 by decide), (show (0 : Int32) ≤ 14 by decide), zCq_0, zCq_0, zCq_0, zCq_0, zCqL_0, zCqL_0, zCq_0, zCq_0, zCq_0⟩
    intro t back' o' ⟨K1, K2, B1, B2, B3, B4, B5, B6, B7, B8, B9⟩ hb' ho'
    by_cases c' : 14 ≤ t.1
    · rw [if_pos c'] at ho'
      have e' : t.1 = 14 := by (first | ((try clear h); (try clear hb); (try clear ho); grind) | grind)
      rw [e'] at B1 B2 B3 B4 B5 B6 B7 B8 B9
      rw [← Option.some.inj ho']
      have u1 : upd mF (0 : Int32).toNatClampNeg (mF (1 : Int32).toNatClampNeg) 0 = mF 1 := by rw [zn01.1, zn01.2]; exact if_pos rfl
      have u2 : upd mN (0 : Int32).toNatClampNeg (mN (1 : Int32).toNatClampNeg) 0 = mN 1 := by rw [zn01.1, zn01.2]; exact if_pos rfl
      have u3 : upd mCst (0 : Int32).toNatClampNeg (mCst (1 : Int32).toNatClampNeg) 0 = mCst 1 := by rw [zn01.1, zn01.2]; exact if_pos rfl
      exact ⟨u1, u2, u3, A1, A2, A3, A4, B1, B2, B3, B4, B5, B6, B7, B8, B9⟩
    · rw [if_neg c'] at ho'
      obtain ⟨-, ho'⟩ := zg_s ho'
      obtain ⟨-, ho'⟩ := zg_s ho'
      have kk : 0 ≤ t.1 ∧ t.1 < 14 := ⟨K1, by (first | ((try clear h); (try clear hb); (try clear ho); (try clear ho'); grind) | grind)⟩
      have dd : (0 : Int32) ≤ 14 ∧ (14 : Int32) ≤ 14 := by decide
      have E1 := zCq_s dd kk B1
      have E2 := zCq_s dd kk B2
      have E3 := zCq_s dd kk B3
      have E4 := zCq_s dd kk B4
      have E5 := zCqL_s dd kk B5
      have E6 := zCqL_s dd kk B6
      have E7 := zCq_s dd kk B7
      have E8 := zCq_s dd kk B8
      have E9 := zCq_s dd kk B9
      have l1 : 0 ≤ t.1 + 1 := by (first | ((try clear h); (try clear hb); (try clear ho); (try clear ho'); grind) | grind)
      have l2 : t.1 + 1 ≤ 14 := by (first | ((try clear h); (try clear hb); (try clear ho); (try clear ho'); grind) | grind)
      refine hb' _ _ ?_ ho'
      exact ⟨l1, l2, E1, E2, E3, E4, E5, E6, E7, E8, E9⟩
  · rw [if_neg c] at ho
    obtain ⟨-, ho⟩ := zg_s ho
    obtain ⟨-, ho⟩ := zg_s ho
    have kk : 0 ≤ s.1 ∧ s.1 < 4 := ⟨H1, by (first | ((try clear h); (try clear hb); (try clear ho); (try clear ho'); grind) | grind)⟩
    have dd : (0 : Int32) ≤ 4 ∧ (4 : Int32) ≤ 14 := by decide
    have E1 := zCq_s dd kk A1
    have E2 := zCq_s dd kk A2
    have E3 := zCq_s dd kk A3
    have E4 := zCq_s dd kk A4
    have l1 : 0 ≤ s.1 + 1 := by (first | ((try clear h); (try clear hb); (try clear ho); (try clear ho'); grind) | grind)
    have l2 : s.1 + 1 ≤ 4 := by (first | ((try clear h); (try clear hb); (try clear ho); (try clear ho'); grind) | grind)
    refine hb _ _ ?_ ho
    exact ⟨l1, l2, E1, E2, E3, E4⟩
theorem zTN_of {cF cc cN inp : Int32} {nF nN stp mst prc al made amt op fx jn lets : Nat → Int32} {mF mN mNF mNN mS mM mC mW mCst mO m1 m2 mX mG : Nat → Int32} {mA mB : Nat → Int64} {x : (Nat → Int32) × (Nat → Int32) × (Nat → Int32) × (Nat → Int32) × (Nat → Int32) × (Nat → Int32) × (Nat → Int32) × (Nat → Int32) × (Nat → Int32) × (Nat → Int32) × (Nat → Int32) × (Nat → Int64) × (Nat → Int64) × (Nat → Int32) × (Nat → Int32) × (Nat → Int32)} (h : fn_X12_copiesTask mF mN mCst mNF mS mM mC mNN mO m1 m2 mA mB mX mW mG = some x) (hR : zTS cF cc cN inp nF nN stp mst prc al made amt op fx jn lets mF mN mNF mNN mS mM mC mW mCst mO m1 m2 mX mG mA mB) (h1 : ¬ mF 1 = 0) (h2 : ¬ mN 1 = 0) : zTN cF cc cN inp nF nN stp mst prc al made amt op fx jn lets x.1 x.2.1 x.2.2.2.1 x.2.2.2.2.2.2.2.1 x.2.2.2.2.1 x.2.2.2.2.2.1 x.2.2.2.2.2.2.1 x.2.2.2.2.2.2.2.2.2.2.2.2.2.2.1 x.2.2.1 x.2.2.2.2.2.2.2.2.1 x.2.2.2.2.2.2.2.2.2.1 x.2.2.2.2.2.2.2.2.2.2.1 x.2.2.2.2.2.2.2.2.2.2.2.2.2.1 x.2.2.2.2.2.2.2.2.2.2.2.2.2.2.2 x.2.2.2.2.2.2.2.2.2.2.2.1 x.2.2.2.2.2.2.2.2.2.2.2.2.1 := by
  obtain ⟨⟨a1, a2, a3⟩, ⟨b1, b2, b3⟩, ⟨c1, c2, c3⟩, hi, hf, hn, hg⟩ := hR
  obtain ⟨k1, k2, k3, kNF, kS, kM, kC, kNN, kO, k1', k2', kA, kB, kX, kW, kG⟩ := zCopy h
  refine ⟨⟨k1.trans a1, a2, a3⟩, ⟨k2.trans b1, b2, b3⟩, ⟨k3.trans c1, c2, c3⟩, fun q => absurd (b1.trans q) h2, fun _ => by (first | ((try clear h); (try clear hR); grind) | grind), hi, fun i i1 i2 => ?_, fun i i1 i2 => ?_, fun i i1 i2 => ?_, fun i j i1 i2 j1 j2 => ?_⟩
  · obtain ⟨q1, q2, q3, q4, q5, q6, q7⟩ := hf i i1 i2
    rw [kNF.1 i i1 (by (first | ((try clear h); (try clear hR); grind) | grind)), kS.1 i i1 (by (first | ((try clear h); (try clear hR); grind) | grind)), kM.1 i i1 (by (first | ((try clear h); (try clear hR); grind) | grind)), kC.1 i i1 (by (first | ((try clear h); (try clear hR); grind) | grind))]
    exact ⟨q1, q2, q3, q4, q5, q6, q7⟩
  · have i3 : i < 14 := by (first | ((try clear h); (try clear hR); grind) | grind)
    unfold zN01
    rw [kNN.1 i i1 i3, kO.1 i i1 i3, kX.1 i i1 i3, kW.1 i i1 i3, k1'.1 i i1 i3, k2'.1 i i1 i3, kA.1 i i1 i3, kB.1 i i1 i3]
    exact hn i i1 i2
  · have i3 : i < 14 := by (first | ((try clear h); (try clear hR); grind) | grind)
    obtain ⟨q1, q2, q3⟩ := hg.1 i i1 i2
    rw [kG.1 i i1 i3]
    refine ⟨q1, q2, ?_⟩
    rw [kG.1 _ q1 (by (first | ((try clear h); (try clear hR); grind) | grind))]
    exact q3
  · rw [kG.1 i i1 (by (first | ((try clear h); (try clear hR); grind) | grind)), kG.1 j j1 (by (first | ((try clear h); (try clear hR); grind) | grind))]
    exact hg.2.1 i j i1 i2 j1 j2
theorem zFR_tr {mF mN mNF mNN mS mM mC mW mCst mO m1 m2 mX mG : Nat → Int32} {mA mB : Nat → Int64} {nF nN nNF nNN nS nM nC nW nCst nO n1 n2 nX nG : Nat → Int32} {nA nB : Nat → Int64} {pF pN pNF pNN pS pM pC pW pCst pO p1 p2 pX pG : Nat → Int32} {pA pB : Nat → Int64} (h : zFR mF mN mNF mNN mS mM mC mW mCst mO m1 m2 mX mG mA mB nF nN nNF nNN nS nM nC nW nCst nO n1 n2 nX nG nA nB) (k : zFR nF nN nNF nNN nS nM nC nW nCst nO n1 n2 nX nG nA nB pF pN pNF pNN pS pM pC pW pCst pO p1 p2 pX pG pA pB) : zFR mF mN mNF mNN mS mM mC mW mCst mO m1 m2 mX mG mA mB pF pN pNF pNN pS pM pC pW pCst pO p1 p2 pX pG pA pB := by
  obtain ⟨a1, a2, a3, a4, a5, a6, a7, a8, a9, a10, a11, a12, a13, a14, a15, a16⟩ := h
  obtain ⟨b1, b2, b3, b4, b5, b6, b7, b8, b9, b10, b11, b12, b13, b14, b15, b16⟩ := k
  exact ⟨b1.trans a1, b2.trans a2, fun y hy => (b3 y hy).trans (a3 y hy), fun y hy => (b4 y hy).trans (a4 y hy), fun y hy => (b5 y hy).trans (a5 y hy), fun y hy => (b6 y hy).trans (a6 y hy), fun y hy => (b7 y hy).trans (a7 y hy), fun y hy => (b8 y hy).trans (a8 y hy), b9.trans a9, fun y hy => (b10 y hy).trans (a10 y hy), fun y hy => (b11 y hy).trans (a11 y hy), fun y hy => (b12 y hy).trans (a12 y hy), fun y hy => (b13 y hy).trans (a13 y hy), fun y hy => (b14 y hy).trans (a14 y hy), fun y hy => (b15 y hy).trans (a15 y hy), fun y hy => (b16 y hy).trans (a16 y hy)⟩
/-- what doesn't touch the TASK at hand keeps it -/
theorem zTN_fr {cF cc cN inp : Int32} {nF nN stp mst prc al made amt op fx jn lets : Nat → Int32} {mF mN mNF mNN mS mM mC mW mCst mO m1 m2 mX mG : Nat → Int32} {mA mB : Nat → Int64} {pF pN pNF pNN pS pM pC pW pCst pO p1 p2 pX pG : Nat → Int32} {pA pB : Nat → Int64} (h : zTN cF cc cN inp nF nN stp mst prc al made amt op fx jn lets mF mN mNF mNN mS mM mC mW mCst mO m1 m2 mX mG mA mB) (k : zFR mF mN mNF mNN mS mM mC mW mCst mO m1 m2 mX mG mA mB pF pN pNF pNN pS pM pC pW pCst pO p1 p2 pX pG pA pB) : zTN cF cc cN inp nF nN stp mst prc al made amt op fx jn lets pF pN pNF pNN pS pM pC pW pCst pO p1 p2 pX pG pA pB := by
  obtain ⟨⟨a1, a2, a3⟩, ⟨b1, b2, b3⟩, ⟨c1, c2, c3⟩, hz, hp, hi, hf, hn, hg⟩ := h
  obtain ⟨kF, kN, kNF, kNN, kS, kM, kC, kW, kCst, kO, k1', k2', kX, kG, kA, kB⟩ := k
  have l4 : ∀ i : Int32, 0 ≤ i → i < cF → i.toNatClampNeg < 4 := fun i i1 i2 => by have := zcl' (c := 4) i1 (by (first | ((try clear h); (try clear k); (try clear l4); grind) | grind)); rw [show (4 : Int32).toNatClampNeg = 4 by decide +kernel] at this; exact this
  have l14 : ∀ i : Int32, 0 ≤ i → i < 14 → i.toNatClampNeg < 14 := fun i i1 i2 => by have := zcl' (c := 14) i1 i2; rw [show (14 : Int32).toNatClampNeg = 14 by decide +kernel] at this; exact this
  refine ⟨⟨kF.trans a1, a2, a3⟩, ⟨kN.trans b1, b2, b3⟩, ⟨kCst.trans c1, c2, c3⟩, hz, hp, hi, fun i i1 i2 => ?_, fun i i1 i2 => ?_, fun i i1 i2 => ?_, fun i j i1 i2 j1 j2 => ?_⟩
  · have l := l4 i i1 i2
    rw [kNF _ l, kS _ l, kM _ l, kC _ l]
    exact hf i i1 i2
  · have l := l14 i i1 (by (first | ((try clear h); (try clear k); (try clear l4); (try clear l14); grind) | grind))
    unfold zN01
    rw [kNN _ l, kO _ l, kX _ l, kW _ l, k1' _ l, k2' _ l, kA _ l, kB _ l]
    exact hn i i1 i2
  · obtain ⟨q1, q2, q3⟩ := hg.1 i i1 i2
    rw [kG _ (l14 i i1 (by (first | ((try clear h); (try clear k); (try clear l4); (try clear l14); grind) | grind)))]
    refine ⟨q1, q2, ?_⟩
    rw [kG _ (l14 _ q1 (by (first | ((try clear h); (try clear k); (try clear l4); (try clear l14); grind) | grind)))]
    exact q3
  · rw [kG _ (l14 i i1 (by (first | ((try clear h); (try clear k); (try clear l4); (try clear l14); grind) | grind))), kG _ (l14 j j1 (by (first | ((try clear h); (try clear k); (try clear l4); (try clear l14); grind) | grind)))]
    exact hg.2 i j i1 i2 j1 j2
/-! task() of both: what comes to be at hand -/
noncomputable def zRR2 (hh ba bw : Int32) (mH mRf : Nat → Int32) (mF mN mNF mNN mS mM mC mW mCst mO m1 m2 mX mG : Nat → Int32) (mA mB : Nat → Int64) (r : Int32 × Int32 × Int32 × Int32 × Int32 × Int32 × Int32 × Int32 × Int32 × Int32 × Int32 × Int32 × Int32 × Int32 × (Nat → Int32) × (Nat → Int32) × (Nat → Int32) × (Nat → Int32) × (Nat → Int32) × (Nat → Int32) × (Nat → Int32) × (Nat → Int32) × (Nat → Int32) × (Nat → Int32) × (Nat → Int32) × (Nat → Int32)) (q : Int32 × Int32 × Int32 × Int64 × Int32 × Int32 × Int32 × Int32 × Int32 × Int32 × Int32 × Int32 × Int32 × Int32 × (Nat → Int32) × (Nat → Int32) × (Nat → Int32) × (Nat → Int32) × (Nat → Int32) × (Nat → Int32) × (Nat → Int32) × (Nat → Int32) × (Nat → Int32) × (Nat → Int32) × (Nat → Int32) × (Nat → Int32) × (Nat → Int32) × (Nat → Int32) × (Nat → Int64) × (Nat → Int64) × (Nat → Int32) × (Nat → Int32)) : Prop :=
  (r.1 = 0 ∧ q.1 = (-1) ∧ q.2.2.2.2.1 = r.2.2.1 ∧ q.2.2.2.2.2.2.1 = r.2.2.2.1 ∧ zFR mF mN mNF mNN mS mM mC mW mCst mO m1 m2 mX mG mA mB q.2.2.2.2.2.2.2.2.2.2.2.2.2.2.1 q.2.2.2.2.2.2.2.2.2.2.2.2.2.2.2.1 q.2.2.2.2.2.2.2.2.2.2.2.2.2.2.2.2.2.1 q.2.2.2.2.2.2.2.2.2.2.2.2.2.2.2.2.2.2.1 q.2.2.2.2.2.2.2.2.2.2.2.2.2.2.2.2.2.2.2.1 q.2.2.2.2.2.2.2.2.2.2.2.2.2.2.2.2.2.2.2.2.1 q.2.2.2.2.2.2.2.2.2.2.2.2.2.2.2.2.2.2.2.2.2.1 q.2.2.2.2.2.2.2.2.2.2.2.2.2.2.2.2.2.2.2.2.2.2.1 q.2.2.2.2.2.2.2.2.2.2.2.2.2.2.2.2.1 q.2.2.2.2.2.2.2.2.2.2.2.2.2.2.2.2.2.2.2.2.2.2.2.1 q.2.2.2.2.2.2.2.2.2.2.2.2.2.2.2.2.2.2.2.2.2.2.2.2.1 q.2.2.2.2.2.2.2.2.2.2.2.2.2.2.2.2.2.2.2.2.2.2.2.2.2.1 q.2.2.2.2.2.2.2.2.2.2.2.2.2.2.2.2.2.2.2.2.2.2.2.2.2.2.1 q.2.2.2.2.2.2.2.2.2.2.2.2.2.2.2.2.2.2.2.2.2.2.2.2.2.2.2.1 q.2.2.2.2.2.2.2.2.2.2.2.2.2.2.2.2.2.2.2.2.2.2.2.2.2.2.2.2.1 q.2.2.2.2.2.2.2.2.2.2.2.2.2.2.2.2.2.2.2.2.2.2.2.2.2.2.2.2.2.1 ∧ q.2.2.2.2.2.2.2.2.2.2.2.2.2.2.2.2.2.2.2.2.2.2.2.2.2.2.2.2.2.2.1 = mH ∧ q.2.2.2.2.2.1 = hh ∧ q.2.2.2.2.2.2.2.2.1 = ba ∧ q.2.2.2.2.2.2.2.2.2.1 = bw ∧ q.2.2.2.2.2.2.2.2.2.2.2.2.2.2.2.2.2.2.2.2.2.2.2.2.2.2.2.2.2.2.2 = upd mRf 1 (mRf 1 + 1))
  ∨ (r.1 = 1 ∧ q.1 = r.2.2.2.2.2.2.1 ∧ q.2.2.2.2.1 = 0 ∧ q.2.2.2.2.2.2.1 = (-1) ∧ r.2.2.1 = 0 ∧ r.2.2.2.1 = (-1) ∧ 0 < r.2.2.2.2.2.2.1 ∧ zTN r.2.2.2.2.1 r.2.2.2.2.2.1 r.2.2.2.2.2.2.1 r.2.2.2.2.2.2.2.1 r.2.2.2.2.2.2.2.2.2.2.2.2.2.2.1 r.2.2.2.2.2.2.2.2.2.2.2.2.2.2.2.1 r.2.2.2.2.2.2.2.2.2.2.2.2.2.2.2.2.1 r.2.2.2.2.2.2.2.2.2.2.2.2.2.2.2.2.2.1 r.2.2.2.2.2.2.2.2.2.2.2.2.2.2.2.2.2.2.1 r.2.2.2.2.2.2.2.2.2.2.2.2.2.2.2.2.2.2.2.1 r.2.2.2.2.2.2.2.2.2.2.2.2.2.2.2.2.2.2.2.2.1 r.2.2.2.2.2.2.2.2.2.2.2.2.2.2.2.2.2.2.2.2.2.1 r.2.2.2.2.2.2.2.2.2.2.2.2.2.2.2.2.2.2.2.2.2.2.1 r.2.2.2.2.2.2.2.2.2.2.2.2.2.2.2.2.2.2.2.2.2.2.2.1 r.2.2.2.2.2.2.2.2.2.2.2.2.2.2.2.2.2.2.2.2.2.2.2.2.1 r.2.2.2.2.2.2.2.2.2.2.2.2.2.2.2.2.2.2.2.2.2.2.2.2.2 q.2.2.2.2.2.2.2.2.2.2.2.2.2.2.1 q.2.2.2.2.2.2.2.2.2.2.2.2.2.2.2.1 q.2.2.2.2.2.2.2.2.2.2.2.2.2.2.2.2.2.1 q.2.2.2.2.2.2.2.2.2.2.2.2.2.2.2.2.2.2.1 q.2.2.2.2.2.2.2.2.2.2.2.2.2.2.2.2.2.2.2.1 q.2.2.2.2.2.2.2.2.2.2.2.2.2.2.2.2.2.2.2.2.1 q.2.2.2.2.2.2.2.2.2.2.2.2.2.2.2.2.2.2.2.2.2.1 q.2.2.2.2.2.2.2.2.2.2.2.2.2.2.2.2.2.2.2.2.2.2.1 q.2.2.2.2.2.2.2.2.2.2.2.2.2.2.2.2.1 q.2.2.2.2.2.2.2.2.2.2.2.2.2.2.2.2.2.2.2.2.2.2.2.1 q.2.2.2.2.2.2.2.2.2.2.2.2.2.2.2.2.2.2.2.2.2.2.2.2.1 q.2.2.2.2.2.2.2.2.2.2.2.2.2.2.2.2.2.2.2.2.2.2.2.2.2.1 q.2.2.2.2.2.2.2.2.2.2.2.2.2.2.2.2.2.2.2.2.2.2.2.2.2.2.1 q.2.2.2.2.2.2.2.2.2.2.2.2.2.2.2.2.2.2.2.2.2.2.2.2.2.2.2.1 q.2.2.2.2.2.2.2.2.2.2.2.2.2.2.2.2.2.2.2.2.2.2.2.2.2.2.2.2.1 q.2.2.2.2.2.2.2.2.2.2.2.2.2.2.2.2.2.2.2.2.2.2.2.2.2.2.2.2.2.1 ∧ fn_X12_beginsChoice (q.2.2.2.2.2.2.2.2.2.2.2.2.2.2.2.1) mH (q.2.2.2.2.2.2.2.2.2.2.2.2.2.2.2.2.2.2.2.2.2.2.2.2.2.2.1) (q.2.2.2.2.2.2.2.2.2.2.2.2.2.2.2.2.2.2.2.2.2.2.2.2.2.2.2.1) = some (q.2.2.2.2.2.1, q.2.2.2.2.2.2.2.2.2.2.2.2.2.2.2.2.2.2.2.2.2.2.2.2.2.2.2.2.2.2.1) ∧ q.2.2.2.2.2.2.2.2.1 = (-1) ∧ q.2.2.2.2.2.2.2.2.2.1 = (-1) ∧ q.2.2.2.2.2.2.2.2.2.2.2.2.2.2.2.2.2.2.2.2.2.2.2.2.2.2.2.2.2.2.2 = mRf)
theorem zRef1b {f20 : Nat → Int32} {x : Int32 × (Nat → Int32)} (h : fn_X12_refuses 1 f20 = some x) : x.1 = (-1) ∧ x.2 = upd f20 1 (f20 1 + 1) := by
  unfold fn_X12_refuses at h
  obtain ⟨-, h⟩ := zg_s h
  rw [← Option.some.inj h, zn01.2]
  exact ⟨rfl, rfl⟩
set_option maxRecDepth 100000 in
set_option maxHeartbeats 4000000 in
theorem zStop12b {n v0_38 v0_58 v0_59 : Int32} {g tab f19 f20 : Nat → Int32} {n2 : Nat} {cnt a bg w wa : Int32} {wv : Int64} {mF mN mNF mNN mS mM mC mW mCst mO m1 m2 mX mG : Nat → Int32} {mA mB : Nat → Int64} {q : Int32 × Int32 × Int32 × Int64 × Int32 × Int32 × Int32 × Int32 × Int32 × Int32 × Int32 × Int32 × Int32 × Int32 × (Nat → Int32) × (Nat → Int32) × (Nat → Int32) × (Nat → Int32) × (Nat → Int32) × (Nat → Int32) × (Nat → Int32) × (Nat → Int32) × (Nat → Int32) × (Nat → Int32) × (Nat → Int32) × (Nat → Int32) × (Nat → Int32) × (Nat → Int32) × (Nat → Int64) × (Nat → Int64) × (Nat → Int32) × (Nat → Int32)} (hw : ¬ w = 0) (h : zl (zB12 n v0_38 v0_58 v0_59 g tab f19 f20) n2 (cnt, wv, a, bg, w, wa, mF, mNF, mS, mM, mC, mN, mNN, mO, m1, m2, mA, mB, mCst, mX, mW, mG) = some q) : q.1 = (-1) ∧ q.2.2.2.2.1 = w ∧ q.2.2.2.2.2.2.1 = wa ∧ zFR mF mN mNF mNN mS mM mC mW mCst mO m1 m2 mX mG mA mB q.2.2.2.2.2.2.2.2.2.2.2.2.2.2.1 q.2.2.2.2.2.2.2.2.2.2.2.2.2.2.2.1 q.2.2.2.2.2.2.2.2.2.2.2.2.2.2.2.2.2.1 q.2.2.2.2.2.2.2.2.2.2.2.2.2.2.2.2.2.2.1 q.2.2.2.2.2.2.2.2.2.2.2.2.2.2.2.2.2.2.2.1 q.2.2.2.2.2.2.2.2.2.2.2.2.2.2.2.2.2.2.2.2.1 q.2.2.2.2.2.2.2.2.2.2.2.2.2.2.2.2.2.2.2.2.2.1 q.2.2.2.2.2.2.2.2.2.2.2.2.2.2.2.2.2.2.2.2.2.2.1 q.2.2.2.2.2.2.2.2.2.2.2.2.2.2.2.2.1 q.2.2.2.2.2.2.2.2.2.2.2.2.2.2.2.2.2.2.2.2.2.2.2.1 q.2.2.2.2.2.2.2.2.2.2.2.2.2.2.2.2.2.2.2.2.2.2.2.2.1 q.2.2.2.2.2.2.2.2.2.2.2.2.2.2.2.2.2.2.2.2.2.2.2.2.2.1 q.2.2.2.2.2.2.2.2.2.2.2.2.2.2.2.2.2.2.2.2.2.2.2.2.2.2.1 q.2.2.2.2.2.2.2.2.2.2.2.2.2.2.2.2.2.2.2.2.2.2.2.2.2.2.2.1 q.2.2.2.2.2.2.2.2.2.2.2.2.2.2.2.2.2.2.2.2.2.2.2.2.2.2.2.2.1 q.2.2.2.2.2.2.2.2.2.2.2.2.2.2.2.2.2.2.2.2.2.2.2.2.2.2.2.2.2.1 ∧ q.2.2.2.2.2.2.2.2.2.2.2.2.2.2.2.2.2.2.2.2.2.2.2.2.2.2.2.2.2.2.1 = f19 ∧ q.2.2.2.2.2.1 = v0_38 ∧ q.2.2.2.2.2.2.2.2.1 = v0_58 ∧ q.2.2.2.2.2.2.2.2.2.1 = v0_59 ∧ q.2.2.2.2.2.2.2.2.2.2.2.2.2.2.2.2.2.2.2.2.2.2.2.2.2.2.2.2.2.2.2 = upd f20 1 (f20 1 + 1) := by
  cases n2 with
  | zero => exact (zl_0 h).elim
  | succ n2 =>
    have h := zl_s rfl h
    unfold zB12 at h
    simp only [zb_some, zj, zGw_n hw, if_true, if_neg hw] at h
    obtain ⟨x, hx, h⟩ := zb_s h
    have hx1 := zRef1b hx
    rw [← Option.some.inj h]
    exact ⟨hx1.1, rfl, rfl, zFR_rf, rfl, rfl, rfl, rfl, hx1.2⟩
set_option maxRecDepth 100000 in
set_option maxHeartbeats 8000000 in
theorem zLoop2 {n v0_38 v0_58 v0_59 : Int32} {f g own tab f19 f20 : Nat → Int32} {oF oN oNF oNN oS oM oC oW oCst oO o1 o2 oX oG : Nat → Int32} {oA oB : Nat → Int64} {r : Int32 × Int32 × Int32 × Int32 × Int32 × Int32 × Int32 × Int32 × Int32 × Int32 × Int32 × Int32 × Int32 × Int32 × (Nat → Int32) × (Nat → Int32) × (Nat → Int32) × (Nat → Int32) × (Nat → Int32) × (Nat → Int32) × (Nat → Int32) × (Nat → Int32) × (Nat → Int32) × (Nat → Int32) × (Nat → Int32) × (Nat → Int32)} {q : Int32 × Int32 × Int32 × Int64 × Int32 × Int32 × Int32 × Int32 × Int32 × Int32 × Int32 × Int32 × Int32 × Int32 × (Nat → Int32) × (Nat → Int32) × (Nat → Int32) × (Nat → Int32) × (Nat → Int32) × (Nat → Int32) × (Nat → Int32) × (Nat → Int32) × (Nat → Int32) × (Nat → Int32) × (Nat → Int32) × (Nat → Int32) × (Nat → Int32) × (Nat → Int32) × (Nat → Int64) × (Nat → Int64) × (Nat → Int32) × (Nat → Int32)} (hn : 0 ≤ n ∧ n ≤ 1200) (ht : zTp f g) (ho : ∀ w : Nat, w < 13 → own w = zOwT w) (hT : (∀ k : Nat, k < 71 → tab k = zTab k)) : ∀ (n1 n2 : Nat) (cnt got e k s v o a bg : Int32) (wv : Int64) (cF cc cN inp : Int32) (nF nN stp mst prc al made amt op fx jn lets : Nat → Int32) (mF mN mNF mNN mS mM mC mW mCst mO m1 m2 mX mG : Nat → Int32) (mA mB : Nat → Int64), (0 ≤ cnt ∧ cnt ≤ 40) → (0 ≤ a ∧ a ≤ n) → zTok n f g a e k s v o → zTS cF cc cN inp nF nN stp mst prc al made amt op fx jn lets mF mN mNF mNN mS mM mC mW mCst mO m1 m2 mX mG mA mB → zFR oF oN oNF oNN oS oM oC oW oCst oO o1 o2 oX oG oA oB mF mN mNF mNN mS mM mC mW mCst mO m1 m2 mX mG mA mB → zl (zB5 n n f own) n1 (cnt, got, 0, (-1), cF, cc, e, k, s, v, o, cN, inp, nF, stp, mst, prc, nN, op, fx, al, lets, jn, made, amt) = some r → zl (zB12 n v0_38 v0_58 v0_59 g tab f19 f20) n2 (cnt, wv, a, bg, 0, (-1), mF, mNF, mS, mM, mC, mN, mNN, mO, m1, m2, mA, mB, mCst, mX, mW, mG) = some q → zRR2 v0_38 v0_58 v0_59 f19 f20 oF oN oNF oNN oS oM oC oW oCst oO o1 o2 oX oG oA oB r q := by
  intro n1
  induction n1 with
  | zero => intro n2 cnt got e k s v o a bg wv cF cc cN inp nF nN stp mst prc al made amt op fx jn lets mF mN mNF mNN mS mM mC mW mCst mO m1 m2 mX mG mA mB _ _ _ _ _ h; exact (zl_0 h).elim
  | succ n1 ih =>
    intro n2 cnt got e k s v o a bg wv cF cc cN inp nF nN stp mst prc al made amt op fx jn lets mF mN mNF mNN mS mM mC mW mCst mO m1 m2 mX mG mA mB hc ha T hR hfr0 h1 h2
    cases n2 with
    | zero => exact (zl_0 h2).elim
    | succ n2 =>
      have h1 := zl_s rfl h1
      have h2 := zl_s rfl h2
      have hR0 := hR
      obtain ⟨hF, hN, hC, hI, hfm, hnu, hgr⟩ := hR
      have h10 : ¬ (1 : Int32) = 0 := by decide
      have h40 : ¬ 40 < cnt := by (first | ((try clear ht); (try clear ho); (try clear hT); grind) | grind)
      have hz0 := zTok_0 ht ha T
      have hb := zTok_b ha T
      unfold zB5 at h1
      unfold zB12 at h2
      simp only [zj, if_neg h40] at h1
      simp only [zb_some, zj, zGw_0, if_neg h10, zHereT hn.2 ha T] at h2
      by_cases hk : k = 0
      · rw [if_pos hk] at h1
        simp only [hz0.mpr hk, if_true, zn01.2, zn01.1] at h2
        have st5 : fn_X5_stopAt 4 n = some (0, 4, n) := rfl
        simp only [st5, zb_some, if_true, if_neg h10] at h1
        by_cases z : mF 1 = 0 ∨ mN 1 = 0
        · have e1 : r.1 = 0 ∧ r.2.2.1 = 4 ∧ r.2.2.2.1 = n := by
            by_cases z1 : cF ≤ 0
            · rw [if_pos z1] at h1
              rw [← Option.some.inj h1]
              exact ⟨rfl, rfl, rfl⟩
            · rw [if_neg z1, if_pos (by (first | ((try clear ht); (try clear ho); (try clear hT); (try clear hb); (try clear st5); grind) | grind))] at h1
              rw [← Option.some.inj h1]
              exact ⟨rfl, rfl, rfl⟩
          have h44 : ¬ (4 : Int32) = 0 := by decide
          have e2 : q.1 = (-1) ∧ q.2.2.2.2.1 = 4 ∧ q.2.2.2.2.2.2.1 = n ∧ zFR oF oN oNF oNN oS oM oC oW oCst oO o1 o2 oX oG oA oB q.2.2.2.2.2.2.2.2.2.2.2.2.2.2.1 q.2.2.2.2.2.2.2.2.2.2.2.2.2.2.2.1 q.2.2.2.2.2.2.2.2.2.2.2.2.2.2.2.2.2.1 q.2.2.2.2.2.2.2.2.2.2.2.2.2.2.2.2.2.2.1 q.2.2.2.2.2.2.2.2.2.2.2.2.2.2.2.2.2.2.2.1 q.2.2.2.2.2.2.2.2.2.2.2.2.2.2.2.2.2.2.2.2.1 q.2.2.2.2.2.2.2.2.2.2.2.2.2.2.2.2.2.2.2.2.2.1 q.2.2.2.2.2.2.2.2.2.2.2.2.2.2.2.2.2.2.2.2.2.2.1 q.2.2.2.2.2.2.2.2.2.2.2.2.2.2.2.2.1 q.2.2.2.2.2.2.2.2.2.2.2.2.2.2.2.2.2.2.2.2.2.2.2.1 q.2.2.2.2.2.2.2.2.2.2.2.2.2.2.2.2.2.2.2.2.2.2.2.2.1 q.2.2.2.2.2.2.2.2.2.2.2.2.2.2.2.2.2.2.2.2.2.2.2.2.2.1 q.2.2.2.2.2.2.2.2.2.2.2.2.2.2.2.2.2.2.2.2.2.2.2.2.2.2.1 q.2.2.2.2.2.2.2.2.2.2.2.2.2.2.2.2.2.2.2.2.2.2.2.2.2.2.2.1 q.2.2.2.2.2.2.2.2.2.2.2.2.2.2.2.2.2.2.2.2.2.2.2.2.2.2.2.2.1 q.2.2.2.2.2.2.2.2.2.2.2.2.2.2.2.2.2.2.2.2.2.2.2.2.2.2.2.2.2.1 ∧ q.2.2.2.2.2.2.2.2.2.2.2.2.2.2.2.2.2.2.2.2.2.2.2.2.2.2.2.2.2.2.1 = f19 ∧ q.2.2.2.2.2.1 = v0_38 ∧ q.2.2.2.2.2.2.2.2.1 = v0_58 ∧ q.2.2.2.2.2.2.2.2.2.1 = v0_59 ∧ q.2.2.2.2.2.2.2.2.2.2.2.2.2.2.2.2.2.2.2.2.2.2.2.2.2.2.2.2.2.2.2 = upd f20 1 (f20 1 + 1) := by
            by_cases z1 : mF 1 = 0
            · simp only [if_pos z1, zFl_0, zb_some, if_neg h44] at h2
              obtain ⟨x, hx, h2⟩ := zb_s h2
              have hx1 := zRef1b hx
              rw [← Option.some.inj h2]
              exact ⟨hx1.1, rfl, rfl, hfr0, rfl, rfl, rfl, rfl, hx1.2⟩
            · simp only [if_neg z1, if_pos (z.resolve_left z1), zFl_0, zb_some, if_neg h44] at h2
              obtain ⟨x, hx, h2⟩ := zb_s h2
              have hx1 := zRef1b hx
              rw [← Option.some.inj h2]
              exact ⟨hx1.1, rfl, rfl, hfr0, rfl, rfl, rfl, rfl, hx1.2⟩
          exact Or.inl ⟨e1.1, e2.1, e2.2.1.trans e1.2.1.symm, e2.2.2.1.trans e1.2.2.symm, e2.2.2.2⟩
        · have z1 : ¬ mF 1 = 0 := fun w => z (Or.inl w)
          have z2 : ¬ mN 1 = 0 := fun w => z (Or.inr w)
          rw [if_neg (by (first | ((try clear ht); (try clear ho); (try clear hT); (try clear h2); (try clear hb); (try clear st5); (try clear hx); grind) | grind)), if_neg (by (first | ((try clear ht); (try clear ho); (try clear hT); (try clear h2); (try clear hb); (try clear st5); (try clear hx); grind) | grind))] at h1
          simp only [if_neg z1, if_neg z2, if_true] at h2
          obtain ⟨x, hx, h2⟩ := zb_s h2
          obtain ⟨y, hy, h2⟩ := zb_s h2
          have htn := zTN_of hx hR0 z1 z2
          rw [← Option.some.inj h1, ← Option.some.inj h2]
          exact Or.inr ⟨rfl, htn.2.1.1, rfl, rfl, rfl, rfl, (show 0 < cN by (first | ((try clear ht); (try clear ho); (try clear hT); (try clear h2); (try clear hb); (try clear st5); (try clear hx); (try clear hy); grind) | grind)), htn, hy, rfl, rfl, rfl⟩
      · rw [if_neg hk] at h1
        have hk' : ¬ zB n g s = (-1) := fun w => hk (hz0.mp w)
        simp only [if_neg hk'] at h2
        obtain ⟨r0, hr0, q0, hq0, hs0, hlt⟩ := zStmt (p := cnt) (got := got) (fk := 0) (fp := -1) (bg := bg) (wa := -1) (wv0 := wv) hn.2 ⟨hb.1, hb.2.1⟩ ht ho hT (zTok_s T) hR0 hc
        simp only [hr0, zb_some] at h1
        simp only [hq0, zb_some] at h2
        rcases hs0 with ⟨g', y, z, b', wv', C, M, rfl, rfl, hy, hts, hfr⟩ | ⟨hst, hfr⟩
        · have hlt := hlt h10
          dsimp only at h1 h2
          rw [if_neg h10] at h1
          exact ih n2 _ _ _ _ _ _ _ _ _ _ _ _ _ _ _ _ _ _ _ _ _ _ _ _ _ _ _ _ _ _ _ _ _ _ _ _ _ _ _ _ _ _ ⟨by (first | ((try clear ht); (try clear ho); (try clear hT); (try clear h2); (try clear hb); (try clear st5); (try clear hx); grind) | grind), by (first | ((try clear ht); (try clear ho); (try clear hT); (try clear h2); (try clear hb); (try clear st5); (try clear hx); grind) | grind)⟩ hy.1 hy.2 hts (zFR_tr hfr0 hfr) h1 h2
        · rw [if_pos hst.1] at h1
          have e2 := zStop12b hst.2.1 h2
          rw [← Option.some.inj h1]
          exact Or.inl ⟨rfl, e2.1, e2.2.1.trans hst.2.2.1.symm, e2.2.2.1.trans hst.2.2.2.symm, zFR_tr (zFR_tr hfr0 hfr) e2.2.2.2.1, e2.2.2.2.2⟩
theorem zFR_0 {mF mN mNF mNN mS mM mC mW mCst mO m1 m2 mX mG : Nat → Int32} {mA mB : Nat → Int64} : zFR mF mN mNF mNN mS mM mC mW mCst mO m1 m2 mX mG mA mB (upd mF 1 0) (upd mN 1 0) mNF mNN mS mM mC mW (upd mCst 1 1) mO m1 m2 mX mG mA mB := ⟨rfl, rfl, (fun _ _ => rfl), (fun _ _ => rfl), (fun _ _ => rfl), (fun _ _ => rfl), (fun _ _ => rfl), (fun _ _ => rfl), rfl, (fun _ _ => rfl), (fun _ _ => rfl), (fun _ _ => rfl), (fun _ _ => rfl), (fun _ _ => rfl), (fun _ _ => rfl), (fun _ _ => rfl)⟩
/-- what task() leaves: nothing of a TASK, or one in both, settled -/
noncomputable def zTQ (rdy fo lr ba bw : Int32) (hand rf gof gld gfx rwd : Nat → Int32) (rlo rhi : Nat → Int64) (mHh mBa mBw : Int32) (mH mRf : Nat → Int32) (mF mN mNF mNN mS mM mC mW mCst mO m1 m2 mX mG : Nat → Int32) (mA mB : Nat → Int64) (x : Int32 × Int32 × Int32 × Int32 × Int32 × Int32 × Int32 × Int32 × Int32 × Int32 × Int32 × Int32 × Int32 × Int32 × Int32 × Int32 × Int32 × (Nat → Int32) × (Nat → Int32) × (Nat → Int32) × (Nat → Int32) × (Nat → Int32) × (Nat → Int32) × (Nat → Int32) × (Nat → Int32) × (Nat → Int32) × (Nat → Int32) × (Nat → Int32) × (Nat → Int32) × Int32 × Int32 × Int32 × (Nat → Int32) × (Nat → Int32) × (Nat → Int32) × (Nat → Int64) × (Nat → Int64) × (Nat → Int32) × (Nat → Int32) × Int32 × Int32 × Int32 × Int32 × Int32 × (Nat → Int32)) (y : Int32 × Int32 × Int32 × Int64 × Int32 × Int32 × Int32 × Int32 × Int32 × Int32 × Int32 × Int32 × Int32 × Int32 × (Nat → Int32) × (Nat → Int32) × (Nat → Int32) × (Nat → Int32) × (Nat → Int32) × (Nat → Int32) × (Nat → Int32) × (Nat → Int32) × (Nat → Int32) × (Nat → Int32) × (Nat → Int32) × (Nat → Int32) × (Nat → Int32) × (Nat → Int32) × (Nat → Int64) × (Nat → Int64) × (Nat → Int32) × (Nat → Int32)) : Prop :=
  (x.2.2.1 = 0 ∧ x.2.2.2.1 = 1 ∧ zFR mF mN mNF mNN mS mM mC mW mCst mO m1 m2 mX mG mA mB y.2.2.2.2.2.2.2.2.2.2.2.2.2.2.1 y.2.2.2.2.2.2.2.2.2.2.2.2.2.2.2.1 y.2.2.2.2.2.2.2.2.2.2.2.2.2.2.2.2.2.1 y.2.2.2.2.2.2.2.2.2.2.2.2.2.2.2.2.2.2.1 y.2.2.2.2.2.2.2.2.2.2.2.2.2.2.2.2.2.2.2.1 y.2.2.2.2.2.2.2.2.2.2.2.2.2.2.2.2.2.2.2.2.1 y.2.2.2.2.2.2.2.2.2.2.2.2.2.2.2.2.2.2.2.2.2.1 y.2.2.2.2.2.2.2.2.2.2.2.2.2.2.2.2.2.2.2.2.2.2.1 y.2.2.2.2.2.2.2.2.2.2.2.2.2.2.2.2.1 y.2.2.2.2.2.2.2.2.2.2.2.2.2.2.2.2.2.2.2.2.2.2.2.1 y.2.2.2.2.2.2.2.2.2.2.2.2.2.2.2.2.2.2.2.2.2.2.2.2.1 y.2.2.2.2.2.2.2.2.2.2.2.2.2.2.2.2.2.2.2.2.2.2.2.2.2.1 y.2.2.2.2.2.2.2.2.2.2.2.2.2.2.2.2.2.2.2.2.2.2.2.2.2.2.1 y.2.2.2.2.2.2.2.2.2.2.2.2.2.2.2.2.2.2.2.2.2.2.2.2.2.2.2.1 y.2.2.2.2.2.2.2.2.2.2.2.2.2.2.2.2.2.2.2.2.2.2.2.2.2.2.2.2.1 y.2.2.2.2.2.2.2.2.2.2.2.2.2.2.2.2.2.2.2.2.2.2.2.2.2.2.2.2.2.1 ∧ x.2.2.2.2.2.2.2.2.2.2.2.2.2.2.2.2.2.2.2.2.2.2.2.2.2.2.2.2.2.2.2.2.2.2.2.2.2.2.1 = hand ∧ y.2.2.2.2.2.2.2.2.2.2.2.2.2.2.2.2.2.2.2.2.2.2.2.2.2.2.2.2.2.2.1 = mH ∧ y.2.2.2.2.2.1 = mHh ∧ y.2.2.2.2.2.2.2.2.1 = mBa ∧ y.2.2.2.2.2.2.2.2.2.1 = mBw ∧ x.2.2.2.2.2.2.2.2.2.2.2.2.2.2.2.2.2.2.2.2.2.2.2.2.2.2.2.2.2.2.2.2.2.2.2.2.2.2.2.2.2.2.1 = ba ∧ x.2.2.2.2.2.2.2.2.2.2.2.2.2.2.2.2.2.2.2.2.2.2.2.2.2.2.2.2.2.2.2.2.2.2.2.2.2.2.2.2.2.2.2.1 = bw ∧ x.2.2.2.2.2.2.2.2.2.2.2.2.2.2.2.2.2.2.2.2.2.2.2.2.2.2.2.2.2.2.2.2.2.2.2.2.2.2.2.1 = rdy ∧ x.2.2.2.2.2.2.2.2.2.2.2.2.2.2.2.2.2.2.2.2.2.2.2.2.2.2.2.2.2.2.2.2.2.2.2.2.2.2.2.2.1 = fo ∧ x.2.2.2.2.2.2.2.2.2.2.2.2.2.2.2.2.2.2.2.2.2.2.2.2.2.2.2.2.2.2.2.2.2.2.2.2.2.2.2.2.2.1 = lr ∧ x.2.2.2.2.2.2.2.2.2.2.2.2.2.2.2.2.2.2.2.2.2.2.2.2.2.2.2.2.2.2.2.2.2.2.2.2.2.2.2.2.2.2.2.2 = upd rf 1 (rf 1 + 1) ∧ y.2.2.2.2.2.2.2.2.2.2.2.2.2.2.2.2.2.2.2.2.2.2.2.2.2.2.2.2.2.2.2 = upd mRf 1 (mRf 1 + 1))
  ∨ (x.2.2.1 = 1 ∧ x.2.2.2.1 = 0 ∧ 0 < x.2.2.2.2.2.2.2.2.2.1 ∧ zTN x.2.2.2.2.2.2.2.1 x.2.2.2.2.2.2.2.2.1 x.2.2.2.2.2.2.2.2.2.1 x.2.2.2.2.2.2.2.2.2.2.1 x.2.2.2.2.2.2.2.2.2.2.2.2.2.2.2.2.2.1 x.2.2.2.2.2.2.2.2.2.2.2.2.2.2.2.2.2.2.1 x.2.2.2.2.2.2.2.2.2.2.2.2.2.2.2.2.2.2.2.1 x.2.2.2.2.2.2.2.2.2.2.2.2.2.2.2.2.2.2.2.2.1 x.2.2.2.2.2.2.2.2.2.2.2.2.2.2.2.2.2.2.2.2.2.1 x.2.2.2.2.2.2.2.2.2.2.2.2.2.2.2.2.2.2.2.2.2.2.1 x.2.2.2.2.2.2.2.2.2.2.2.2.2.2.2.2.2.2.2.2.2.2.2.1 x.2.2.2.2.2.2.2.2.2.2.2.2.2.2.2.2.2.2.2.2.2.2.2.2.1 x.2.2.2.2.2.2.2.2.2.2.2.2.2.2.2.2.2.2.2.2.2.2.2.2.2.1 x.2.2.2.2.2.2.2.2.2.2.2.2.2.2.2.2.2.2.2.2.2.2.2.2.2.2.1 x.2.2.2.2.2.2.2.2.2.2.2.2.2.2.2.2.2.2.2.2.2.2.2.2.2.2.2.1 x.2.2.2.2.2.2.2.2.2.2.2.2.2.2.2.2.2.2.2.2.2.2.2.2.2.2.2.2.1 y.2.2.2.2.2.2.2.2.2.2.2.2.2.2.1 y.2.2.2.2.2.2.2.2.2.2.2.2.2.2.2.1 y.2.2.2.2.2.2.2.2.2.2.2.2.2.2.2.2.2.1 y.2.2.2.2.2.2.2.2.2.2.2.2.2.2.2.2.2.2.1 y.2.2.2.2.2.2.2.2.2.2.2.2.2.2.2.2.2.2.2.1 y.2.2.2.2.2.2.2.2.2.2.2.2.2.2.2.2.2.2.2.2.1 y.2.2.2.2.2.2.2.2.2.2.2.2.2.2.2.2.2.2.2.2.2.1 y.2.2.2.2.2.2.2.2.2.2.2.2.2.2.2.2.2.2.2.2.2.2.1 y.2.2.2.2.2.2.2.2.2.2.2.2.2.2.2.2.1 y.2.2.2.2.2.2.2.2.2.2.2.2.2.2.2.2.2.2.2.2.2.2.2.1 y.2.2.2.2.2.2.2.2.2.2.2.2.2.2.2.2.2.2.2.2.2.2.2.2.1 y.2.2.2.2.2.2.2.2.2.2.2.2.2.2.2.2.2.2.2.2.2.2.2.2.2.1 y.2.2.2.2.2.2.2.2.2.2.2.2.2.2.2.2.2.2.2.2.2.2.2.2.2.2.1 y.2.2.2.2.2.2.2.2.2.2.2.2.2.2.2.2.2.2.2.2.2.2.2.2.2.2.2.1 y.2.2.2.2.2.2.2.2.2.2.2.2.2.2.2.2.2.2.2.2.2.2.2.2.2.2.2.2.1 y.2.2.2.2.2.2.2.2.2.2.2.2.2.2.2.2.2.2.2.2.2.2.2.2.2.2.2.2.2.1 ∧ fn_X9_settle (x.2.2.2.2.2.2.2.2.2.1) (x.2.2.2.2.2.2.2.2.2.2.2.2.2.2.2.2.2.2.2.2.2.2.2.2.2.2.2.1) gof gld gfx (x.2.2.2.2.2.2.2.2.2.2.2.2.2.2.2.2.2.2.2.2.2.2.2.2.2.2.1) (x.2.2.2.2.2.2.2.2.2.2.2.2.2.2.2.2.2.2.2.2.2.2.2.2.2.1) (x.2.2.2.2.2.2.2.2.2.2.2.2.2.2.2.2.2.2.2.2.2.2.2.1) (x.2.2.2.2.2.2.2.2.2.2.2.2.2.2.2.2.2.2.2.2.2.2.2.2.1) rlo rhi rwd = some (x.2.2.2.2.2.2.2.2.2.2.2.2.2.2.2.2.2.2.2.2.2.2.2.2.2.2.2.2.2.1, x.2.2.2.2.2.2.2.2.2.2.2.2.2.2.2.2.2.2.2.2.2.2.2.2.2.2.2.2.2.2.1, x.2.2.2.2.2.2.2.2.2.2.2.2.2.2.2.2.2.2.2.2.2.2.2.2.2.2.2.2.2.2.2.1, x.2.2.2.2.2.2.2.2.2.2.2.2.2.2.2.2.2.2.2.2.2.2.2.2.2.2.2.2.2.2.2.2.1, x.2.2.2.2.2.2.2.2.2.2.2.2.2.2.2.2.2.2.2.2.2.2.2.2.2.2.2.2.2.2.2.2.2.1, x.2.2.2.2.2.2.2.2.2.2.2.2.2.2.2.2.2.2.2.2.2.2.2.2.2.2.2.2.2.2.2.2.2.2.1, x.2.2.2.2.2.2.2.2.2.2.2.2.2.2.2.2.2.2.2.2.2.2.2.2.2.2.2.2.2.2.2.2.2.2.2.1, x.2.2.2.2.2.2.2.2.2.2.2.2.2.2.2.2.2.2.2.2.2.2.2.2.2.2.2.2.2.2.2.2.2.2.2.2.1, x.2.2.2.2.2.2.2.2.2.2.2.2.2.2.2.2.2.2.2.2.2.2.2.2.2.2.2.2.2.2.2.2.2.2.2.2.2.1) ∧ fn_X2_fillFree 0 x.2.2.2.2.2.2.2.2.2.2.2.2.2.2.2.2.2.2.2.2.2.2.2.2.2.2.2.2.2.1 hand x.2.2.2.2.2.2.2.2.2.2.2.2.2.2.2.2.2.2.2.2.2.2.2.2.2.2.2.2.2.2.2.2.2.2.1 = some x.2.2.2.2.2.2.2.2.2.2.2.2.2.2.2.2.2.2.2.2.2.2.2.2.2.2.2.2.2.2.2.2.2.2.2.2.2.2.1 ∧ fn_X12_beginsChoice (y.2.2.2.2.2.2.2.2.2.2.2.2.2.2.2.1) mH (y.2.2.2.2.2.2.2.2.2.2.2.2.2.2.2.2.2.2.2.2.2.2.2.2.2.2.1) (y.2.2.2.2.2.2.2.2.2.2.2.2.2.2.2.2.2.2.2.2.2.2.2.2.2.2.2.1) = some (y.2.2.2.2.2.1, y.2.2.2.2.2.2.2.2.2.2.2.2.2.2.2.2.2.2.2.2.2.2.2.2.2.2.2.2.2.2.1) ∧ y.2.2.2.2.2.2.2.2.1 = (-1) ∧ y.2.2.2.2.2.2.2.2.2.1 = (-1) ∧ x.2.2.2.2.2.2.2.2.2.2.2.2.2.2.2.2.2.2.2.2.2.2.2.2.2.2.2.2.2.2.2.2.2.2.2.2.2.2.2.2.2.2.1 = (-1) ∧ x.2.2.2.2.2.2.2.2.2.2.2.2.2.2.2.2.2.2.2.2.2.2.2.2.2.2.2.2.2.2.2.2.2.2.2.2.2.2.2.2.2.2.2.1 = (-1) ∧ x.2.2.2.2.2.2.2.2.2.2.2.2.2.2.2.2.2.2.2.2.2.2.2.2.2.2.2.2.2.2.2.2.2.2.2.2.2.2.2.1 = 0 ∧ x.2.2.2.2.2.2.2.2.2.2.2.2.2.2.2.2.2.2.2.2.2.2.2.2.2.2.2.2.2.2.2.2.2.2.2.2.2.2.2.2.1 = (-1) ∧ x.2.2.2.2.2.2.2.2.2.2.2.2.2.2.2.2.2.2.2.2.2.2.2.2.2.2.2.2.2.2.2.2.2.2.2.2.2.2.2.2.2.1 = 0 ∧ x.2.2.2.2.2.2.2.2.2.2.2.2.2.2.2.2.2.2.2.2.2.2.2.2.2.2.2.2.2.2.2.2.2.2.2.2.2.2.2.2.2.2.2.2 = rf ∧ y.2.2.2.2.2.2.2.2.2.2.2.2.2.2.2.2.2.2.2.2.2.2.2.2.2.2.2.2.2.2.2 = mRf)
set_option maxRecDepth 100000 in
set_option maxHeartbeats 4000000 in
theorem zTaskEq2 {gc gfr gcl mHh mBa mBw mBg : Int32} {nF nN stp mst prc al made amt op fx jn lets gof gfx gld rwd hand mF mN mCst mNF mNN mS mM mC mW mO m1 m2 mX mG mT tab mH mRf rf : Nat → Int32} {rlo rhi mA mB : Nat → Int64} {mWv : Int64} {u w gt rdy fo lr ba bw : Int32} {tp own : Nat → Int32} {x : Int32 × Int32 × Int32 × Int32 × Int32 × Int32 × Int32 × Int32 × Int32 × Int32 × Int32 × Int32 × Int32 × Int32 × Int32 × Int32 × Int32 × (Nat → Int32) × (Nat → Int32) × (Nat → Int32) × (Nat → Int32) × (Nat → Int32) × (Nat → Int32) × (Nat → Int32) × (Nat → Int32) × (Nat → Int32) × (Nat → Int32) × (Nat → Int32) × (Nat → Int32) × Int32 × Int32 × Int32 × (Nat → Int32) × (Nat → Int32) × (Nat → Int32) × (Nat → Int64) × (Nat → Int64) × (Nat → Int32) × (Nat → Int32) × Int32 × Int32 × Int32 × Int32 × Int32 × (Nat → Int32)} {y : Int32 × Int32 × Int32 × Int64 × Int32 × Int32 × Int32 × Int32 × Int32 × Int32 × Int32 × Int32 × Int32 × Int32 × (Nat → Int32) × (Nat → Int32) × (Nat → Int32) × (Nat → Int32) × (Nat → Int32) × (Nat → Int32) × (Nat → Int32) × (Nat → Int32) × (Nat → Int32) × (Nat → Int32) × (Nat → Int32) × (Nat → Int32) × (Nat → Int32) × (Nat → Int32) × (Nat → Int64) × (Nat → Int64) × (Nat → Int32) × (Nat → Int32)} (hl : u = w) (hu : 0 ≤ u ∧ u ≤ 1200) (ht : zTp tp mT) (ho : ∀ w : Nat, w < 13 → own w = zOwT w) (hT : (∀ k : Nat, k < 71 → tab k = zTab k)) (h1 : fn_X11_task u gt tp own nF nN stp mst prc al made amt op fx jn lets gc gfr gcl gof gld gfx rlo rhi rwd hand rdy fo lr ba bw rf = some x) (h2 : fn_X12_task w mBg mWv mHh mBa mBw mF mN mCst mT tab mNF mNN mS mM mC mW mO m1 m2 mX mG mA mB mH mRf = some y) : x.1 = y.1 ∧ x.2.2.2.2.2.1 = y.2.2.2.2.1 ∧ x.2.2.2.2.2.2.1 = y.2.2.2.2.2.2.1 ∧ zTQ rdy fo lr ba bw hand rf gof gld gfx rwd rlo rhi mHh mBa mBw mH mRf mF mN mNF mNN mS mM mC mW mCst mO m1 m2 mX mG mA mB x y := by
  subst hl
  unfold fn_X11_task at h1
  obtain ⟨r, hr, h1⟩ := zb_s h1
  have key : zRR2 mHh mBa mBw mH mRf mF mN mNF mNN mS mM mC mW mCst mO m1 m2 mX mG mA mB r y := by
    unfold fn_X5_read at hr
    have e9 : fn_X9_clear = some (0, 1, 0, 0) := rfl
    simp only [e9, zb_some] at hr
    obtain ⟨z, hz, hr⟩ := zb_s hr
    unfold fn_X10_open at hz
    have hx : (if 0 < (if 1200 < u then 1200 else u) then (if 1200 < u then 1200 else u) else 0) = u := by (first | ((try clear ht); (try clear ho); (try clear hT); (try clear h1); (try clear h2); (try clear hr); (try clear e9); (try clear hz); grind) | grind)
    simp only [zn, hx] at hz
    obtain ⟨t, hadv, hT1⟩ := zAdv (n := u) (a := 0) (k0 := 0) hu.2 ⟨by decide, hu.1⟩ ht ho ⟨fun q => by (first | ((try clear ht); (try clear ho); (try clear hT); (try clear h1); (try clear h2); (try clear hr); (try clear e9); (try clear hz); grind) | grind), fun q => by rw [zK_ahead (0 - 1) (by decide)] at q; (first | ((try clear ht); (try clear ho); (try clear hT); (try clear h1); (try clear h2); (try clear hr); (try clear e9); (try clear hz); grind) | grind)⟩
    rw [hadv] at hz
    simp only [zb_some] at hz
    rw [← Option.some.inj hz] at hr
    dsimp only at hr
    unfold fn_X12_task at h2
    rw [zn01.2] at h2
    exact zLoop2 hu ht ho hT _ _ _ _ _ _ _ _ _ _ _ _ _ _ _ _ _ _ _ _ _ _ _ _ _ _ _ _ _ _ _ _ _ _ _ _ _ _ _ _ _ _ _ _ ⟨by decide, by decide⟩ ⟨by decide, hu.1⟩ hT1 zTS_0 zFR_0 hr h2
  rcases key with ⟨k1, k2, k3, k4, k5⟩ | ⟨k1, k2, k3, k4, k5, k6, k7, k8, k9, k10, k11, k12⟩
  · rw [if_pos k1] at h1
    obtain ⟨z, hz, h1⟩ := zb_s h1
    unfold fn_X11_refuse at hz
    rw [if_neg (by decide), if_neg (by decide)] at hz
    obtain ⟨-, hz⟩ := zg_s hz
    rw [zn01.2] at hz
    rw [← Option.some.inj h1, ← Option.some.inj hz]
    exact ⟨k2.symm, k3.symm, k4.symm, Or.inl ⟨rfl, rfl, k5.1, rfl, k5.2.1, k5.2.2.1, k5.2.2.2.1, k5.2.2.2.2.1, rfl, rfl, rfl, rfl, rfl, rfl, k5.2.2.2.2.2⟩⟩
  · rw [if_neg (by rw [k1]; decide)] at h1
    obtain ⟨z1, hz1, h1⟩ := zb_s h1
    obtain ⟨z2, hz2, h1⟩ := zb_s h1
    have e3 : fn_X1_forget = some (0, -1) := rfl
    have e4 : fn_X3_forget = some 0 := rfl
    have e5 : fn_X0_forget = some (-1, -1) := rfl
    simp only [e3, e4, e5, zb_some] at h1
    rw [← Option.some.inj h1]
    exact ⟨k2.symm, k5.trans k3.symm, k6.trans k4.symm, Or.inr ⟨rfl, rfl, k7, k8, hz1, hz2, k9, k10, k11, rfl, rfl, rfl, rfl, rfl, rfl, k12⟩⟩
/-! the tape's length: class and reference side by side -/
theorem zeq0 {a b : Int32} (h1 : a = 0) (h2 : b = 0) : a = b := h1.trans h2.symm
noncomputable def zPB (p : Int32) (s : Int32 × Int32 × (Nat → Int32)) (back : (Int32 × Int32 × (Nat → Int32)) → Option (Int32 × (Nat → Int32))) : Option (Int32 × (Nat → Int32)) := (if s.1 < 0 then (some (s.2.1, s.2.2)) else (if 1200 ≤ s.2.1 then (back ((s.1 + (-8)), s.2.1, s.2.2)) else (zg s.2.1 1200 (zn (upd s.2.2 s.2.1.toNatClampNeg (vp_nar .byte (p >>> (s.1 &&& 31)).toInt8.toInt32)) (fun g => (back ((s.1 + (-8)), (s.2.1 + 1), g)))))))
theorem zPB_go {p s l : Int32} {f : Nat → Int32} {n : Nat} {o : Int32 × (Nat → Int32)} (h : zl (zPB p) (n + 1) (s, l, f) = some o) (hs : ¬ s < 0) (hl : ¬ 1200 ≤ l) : ∃ g, zl (zPB p) n (s + (-8), l + 1, g) = some o := by
  have h : (if s < 0 then (some (l, f)) else (if 1200 ≤ l then (zl (zPB p) n ((s + (-8)), l, f)) else (zg l 1200 (zn (upd f l.toNatClampNeg (vp_nar .byte (p >>> (s &&& 31)).toInt8.toInt32)) (fun g => (zl (zPB p) n ((s + (-8)), (l + 1), g))))))) = some o := h
  rw [if_neg hs, if_neg hl] at h
  obtain ⟨-, h⟩ := zg_s h
  exact ⟨_, h⟩
theorem zPB_end {p s l : Int32} {f : Nat → Int32} {n : Nat} {o : Int32 × (Nat → Int32)} (h : zl (zPB p) (n + 1) (s, l, f) = some o) (hs : s < 0) : o.1 = l := by
  have h : (if s < 0 then (some (l, f)) else (if 1200 ≤ l then (zl (zPB p) n ((s + (-8)), l, f)) else (zg l 1200 (zn (upd f l.toNatClampNeg (vp_nar .byte (p >>> (s &&& 31)).toInt8.toInt32)) (fun g => (zl (zPB p) n ((s + (-8)), (l + 1), g))))))) = some o := h
  rw [if_pos hs] at h
  rw [← Option.some.inj h]
theorem zputlen {p v : Int32} {f : Nat → Int32} {o : Int32 × (Nat → Int32)} (h : fn_X11_putBytes p v f = some o) (h0 : 0 ≤ v) (h1 : v ≤ 1196) : o.1 = v + 4 := by
  have h : zl (zPB p) (99995 + 1 + 1 + 1 + 1 + 1) (24, v, f) = some o := h
  obtain ⟨g1, h⟩ := zPB_go h (by decide +kernel) (by lia)
  obtain ⟨g2, h⟩ := zPB_go h (by decide +kernel) (by lia)
  obtain ⟨g3, h⟩ := zPB_go h (by decide +kernel) (by lia)
  obtain ⟨g4, h⟩ := zPB_go h (by decide +kernel) (by lia)
  have e := zPB_end h (by decide +kernel)
  rw [e]
  lia
noncomputable def zLB (p v : Int32) (s : Int32 × (Nat → Int32)) (back : (Int32 × (Nat → Int32)) → Option (Int32 × (Nat → Int32))) : Option (Int32 × (Nat → Int32)) := (if 4 ≤ s.1 then (some ((v + 4), s.2)) else (zg (v + s.1) 1200 (zn (upd s.2 (v + s.1).toNatClampNeg ((p >>> ((24 - (8 * s.1)) &&& 31)) &&& 255)) (fun g => (back ((s.1 + 1), g))))))
theorem zlayslen' (p v : Int32) : ∀ (n : Nat) (s o : Int32 × (Nat → Int32)), zl (zLB p v) n s = some o → o.1 = v + 4 := by
  intro n
  induction n with
  | zero =>
    intro s o h
    exact (zl_0 h).elim
  | succ n ih =>
    intro s o h
    have h : (if 4 ≤ s.1 then (some ((v + 4), s.2)) else (zg (v + s.1) 1200 (zn (upd s.2 (v + s.1).toNatClampNeg ((p >>> ((24 - (8 * s.1)) &&& 31)) &&& 255)) (fun g => (zl (zLB p v) n ((s.1 + 1), g)))))) = some o := h
    by_cases c : 4 ≤ s.1
    · rw [if_pos c] at h
      rw [← Option.some.inj h]
    · rw [if_neg c] at h
      obtain ⟨-, h⟩ := zg_s h
      exact ih _ _ h
theorem zlayslen {p v : Int32} {f : Nat → Int32} {o : Int32 × (Nat → Int32)} (h : fn_X12_lays p v f = some o) : o.1 = v + 4 := zlayslen' p v 100000 (0, f) o h
theorem zeq_feed {p1 p2 p3 p4 p5 v w : Int32} {f1 f2 g1 g2 : Nat → Int32} {o o' : Int32 × Int32 × (Nat → Int32) × (Nat → Int32)} (e : v = w) (hv : 0 ≤ v ∧ v ≤ 1200) (h1 : fn_X11_feed p1 p2 p3 p4 p5 v f1 f2 = some o) (h2 : fn_X12_feed p1 p2 p3 p4 p5 w g1 g2 = some o') : o.1 = o'.1 ∧ o.2.1 = o'.2.1 := by
  subst e
  obtain ⟨hv1, hv2⟩ := hv
  unfold fn_X11_feed at h1
  unfold fn_X12_feed at h2
  by_cases c : v ≤ 1180
  · rw [if_pos c] at h1
    rw [if_pos (by lia)] at h2
    obtain ⟨a1, e1, h1⟩ := zb_s h1
    obtain ⟨a2, e2, h1⟩ := zb_s h1
    obtain ⟨a3, e3, h1⟩ := zb_s h1
    obtain ⟨a4, e4, h1⟩ := zb_s h1
    obtain ⟨a5, e5, h1⟩ := zb_s h1
    obtain ⟨b1, d1, h2⟩ := zb_s h2
    obtain ⟨b2, d2, h2⟩ := zb_s h2
    obtain ⟨b3, d3, h2⟩ := zb_s h2
    obtain ⟨b4, d4, h2⟩ := zb_s h2
    obtain ⟨b5, d5, h2⟩ := zb_s h2
    have q1 := zputlen e1 hv1 (by lia)
    have q2 := zputlen e2 (by lia) (by lia)
    have q3 := zputlen e3 (by lia) (by lia)
    have q4 := zputlen e4 (by lia) (by lia)
    have q5 := zputlen e5 (by lia) (by lia)
    have r1 := zlayslen d1
    have r2 := zlayslen d2
    have r3 := zlayslen d3
    have r4 := zlayslen d4
    have r5 := zlayslen d5
    have t1 : a5.1 = v + 20 := by lia
    have t2 : b5.1 = v + 20 := by lia
    rw [← Option.some.inj h1, ← Option.some.inj h2]
    exact ⟨t1.trans t2.symm, t1.trans t2.symm⟩
  · rw [if_neg c] at h1
    rw [if_neg (by lia)] at h2
    obtain ⟨a1, e1, h1⟩ := zb_s h1
    obtain ⟨b1, d1, h2⟩ := zb_s h2
    unfold fn_X11_refuse at e1
    rw [if_neg (by decide +kernel), if_neg (by decide +kernel)] at e1
    obtain ⟨-, e1⟩ := zg_s e1
    unfold fn_X12_refuses at d1
    obtain ⟨-, d1⟩ := zg_s d1
    rw [← Option.some.inj h1, ← Option.some.inj h2, ← Option.some.inj e1, ← Option.some.inj d1]
    exact ⟨rfl, rfl⟩
theorem zeq_end {p v w : Int32} {f g : Nat → Int32} {o o' : Int32 × Int32 × (Nat → Int32)} (e : v = w) (_hv : 0 ≤ v ∧ v ≤ 1200) (h1 : fn_X11_end p v f = some o) (h2 : fn_X12_end p w g = some o') : o.1 = o'.1 ∧ o.2.1 = o'.2.1 := by
  subst e
  unfold fn_X11_end at h1
  unfold fn_X12_end at h2
  by_cases c : p < 0
  · rw [if_pos c] at h1 h2
    obtain ⟨a1, e1, h1⟩ := zb_s h1
    obtain ⟨b1, d1, h2⟩ := zb_s h2
    unfold fn_X12_isRefused at d1
    obtain ⟨-, d1⟩ := zg_s d1
    rw [← Option.some.inj h1, ← Option.some.inj h2, ← Option.some.inj d1]
    exact ⟨rfl, rfl⟩
  · rw [if_neg c] at h1 h2
    by_cases c2 : p ≤ v
    · rw [if_pos c2] at h1 h2
      rw [← Option.some.inj h1, ← Option.some.inj h2]
      exact ⟨rfl, rfl⟩
    · rw [if_neg c2] at h1 h2
      obtain ⟨a1, e1, h1⟩ := zb_s h1
      obtain ⟨b1, d1, h2⟩ := zb_s h2
      unfold fn_X12_isRefused at d1
      obtain ⟨-, d1⟩ := zg_s d1
      rw [← Option.some.inj h1, ← Option.some.inj h2, ← Option.some.inj d1]
      exact ⟨rfl, rfl⟩
theorem zeq_fault {p a b c d : Int32} {o o' : Int32} (e1 : a = c) (e2 : b = d) (h1 : fn_X11_fault p a b = some o) (h2 : fn_X12_fault p c d = some o') : o = o' := by
  subst e1
  subst e2
  unfold fn_X11_fault at h1
  unfold fn_X12_fault at h2
  (first | ((try clear h1); (try clear h2); grind) | grind)
theorem bp_b (x : Int32) : x.toInt8.toInt32 &&& 255 = x &&& 255 := by
  apply Int32.toBitVec_inj.mp
  rw [Int32.toBitVec_and, Int32.toBitVec_and, Int8.toBitVec_toInt32, Int32.toBitVec_toInt8]
  apply BitVec.eq_of_getLsbD_eq
  intro i hi
  rw [BitVec.getLsbD_and, BitVec.getLsbD_and]
  have hm : ∀ i < 32, 8 ≤ i → (255 : Int32).toBitVec.getLsbD i = false := by decide
  rcases Nat.lt_or_ge i 8 with z | z
  · rw [BitVec.getLsbD_signExtend, BitVec.getLsbD_signExtend, if_pos z, if_pos hi]
    simp only [z, hi, decide_true, Bool.true_and]
  · rw [hm i hi z]; simp
/-! the tape's bytes: class and reference side by side -/
theorem zByte (x : Int32) : (-128) ≤ x.toInt8.toInt32 ∧ x.toInt8.toInt32 ≤ 127 ∧ (x &&& 255) = (if x.toInt8.toInt32 < 0 then x.toInt8.toInt32 + 256 else x.toInt8.toInt32) := by
  rw [← bp_b x]
  generalize x.toInt8 = t
  have h : ∀ n : Nat, n < 256 → (-128) ≤ (Int8.ofNat n).toInt32 ∧ (Int8.ofNat n).toInt32 ≤ 127 ∧ ((Int8.ofNat n).toInt32 &&& 255) = (if (Int8.ofNat n).toInt32 < 0 then (Int8.ofNat n).toInt32 + 256 else (Int8.ofNat n).toInt32) := by decide +kernel
  have e : t = Int8.ofNat t.toBitVec.toNat := by
    apply Int8.toBitVec.inj
    simp
  rw [e]
  exact h _ t.toBitVec.isLt
theorem zByte' (x : Int32) : (-128) ≤ vp_nar .byte x.toInt8.toInt32 ∧ vp_nar .byte x.toInt8.toInt32 ≤ 127 ∧ (x &&& 255) = (if vp_nar .byte x.toInt8.toInt32 < 0 then vp_nar .byte x.toInt8.toInt32 + 256 else vp_nar .byte x.toInt8.toInt32) := by
  rw [pk_vb]
  exact zByte x
theorem zTp_up {f g : Nat → Int32} {i : Nat} {x y : Int32} (h : zTp f g) (hx : (-128) ≤ x ∧ x ≤ 127 ∧ y = if x < 0 then x + 256 else x) : zTp (upd f i x) (upd g i y) := by
  intro j
  show (-128) ≤ (if j = i then x else f j) ∧ (if j = i then x else f j) ≤ 127 ∧ (if j = i then y else g j) = (if (if j = i then x else f j) < 0 then (if j = i then x else f j) + 256 else (if j = i then x else f j))
  by_cases c : j = i
  · rw [if_pos c, if_pos c]
    exact hx
  · rw [if_neg c, if_neg c]
    exact h j
theorem zPB_go' {p s l : Int32} {f : Nat → Int32} {n : Nat} {o : Int32 × (Nat → Int32)} (h : zl (zPB p) (n + 1) (s, l, f) = some o) (hs : ¬ s < 0) (hl : ¬ 1200 ≤ l) : zl (zPB p) n (s + (-8), l + 1, upd f l.toNatClampNeg (vp_nar .byte (p >>> (s &&& 31)).toInt8.toInt32)) = some o := by
  have h : (if s < 0 then (some (l, f)) else (if 1200 ≤ l then (zl (zPB p) n ((s + (-8)), l, f)) else (zg l 1200 (zn (upd f l.toNatClampNeg (vp_nar .byte (p >>> (s &&& 31)).toInt8.toInt32)) (fun g => (zl (zPB p) n ((s + (-8)), (l + 1), g))))))) = some o := h
  rw [if_neg hs, if_neg hl] at h
  obtain ⟨-, h⟩ := zg_s h
  exact h
theorem zPB_end' {p s l : Int32} {f : Nat → Int32} {n : Nat} {o : Int32 × (Nat → Int32)} (h : zl (zPB p) (n + 1) (s, l, f) = some o) (hs : s < 0) : o.2 = f := by
  have h : (if s < 0 then (some (l, f)) else (if 1200 ≤ l then (zl (zPB p) n ((s + (-8)), l, f)) else (zg l 1200 (zn (upd f l.toNatClampNeg (vp_nar .byte (p >>> (s &&& 31)).toInt8.toInt32)) (fun g => (zl (zPB p) n ((s + (-8)), (l + 1), g))))))) = some o := h
  rw [if_pos hs] at h
  rw [← Option.some.inj h]
theorem zLB_go {p v k : Int32} {f : Nat → Int32} {n : Nat} {o : Int32 × (Nat → Int32)} (h : zl (zLB p v) (n + 1) (k, f) = some o) (hk : ¬ 4 ≤ k) : zl (zLB p v) n (k + 1, upd f (v + k).toNatClampNeg ((p >>> ((24 - (8 * k)) &&& 31)) &&& 255)) = some o := by
  have h : (if 4 ≤ k then (some ((v + 4), f)) else (zg (v + k) 1200 (zn (upd f (v + k).toNatClampNeg ((p >>> ((24 - (8 * k)) &&& 31)) &&& 255)) (fun g => (zl (zLB p v) n ((k + 1), g)))))) = some o := h
  rw [if_neg hk] at h
  obtain ⟨-, h⟩ := zg_s h
  exact h
theorem zLB_end {p v k : Int32} {f : Nat → Int32} {n : Nat} {o : Int32 × (Nat → Int32)} (h : zl (zLB p v) (n + 1) (k, f) = some o) (hk : 4 ≤ k) : o.2 = f := by
  have h : (if 4 ≤ k then (some ((v + 4), f)) else (zg (v + k) 1200 (zn (upd f (v + k).toNatClampNeg ((p >>> ((24 - (8 * k)) &&& 31)) &&& 255)) (fun g => (zl (zLB p v) n ((k + 1), g)))))) = some o := h
  rw [if_pos hk] at h
  rw [← Option.some.inj h]
theorem zTp_put {p v : Int32} {f g : Nat → Int32} {o o' : Int32 × (Nat → Int32)} (ht : zTp f g) (h0 : 0 ≤ v) (h1 : v ≤ 1196) (e1 : fn_X11_putBytes p v f = some o) (e2 : fn_X12_lays p v g = some o') : zTp o.2 o'.2 := by
  have h : zl (zPB p) (99995 + 1 + 1 + 1 + 1 + 1) (24, v, f) = some o := e1
  have h := zPB_go' h (by decide +kernel) (by lia)
  have h := zPB_go' h (by decide +kernel) (by lia)
  have h := zPB_go' h (by decide +kernel) (by lia)
  have h := zPB_go' h (by decide +kernel) (by lia)
  have h := zPB_end' h (by decide +kernel)
  have k : zl (zLB p v) (99995 + 1 + 1 + 1 + 1 + 1) (0, g) = some o' := e2
  have k := zLB_go k (by decide +kernel)
  have k := zLB_go k (by decide +kernel)
  have k := zLB_go k (by decide +kernel)
  have k := zLB_go k (by decide +kernel)
  have k := zLB_end k (by decide +kernel)
  rw [h, k]
  have i0 : v + 0 = v := by (first | ((try clear ht); (try clear e1); (try clear e2); grind) | grind)
  have i1 : v + (0 + 1) = v + 1 := by (first | ((try clear ht); (try clear e1); (try clear e2); grind) | grind)
  have i2 : v + (0 + 1 + 1) = v + 1 + 1 := by (first | ((try clear ht); (try clear e1); (try clear e2); grind) | grind)
  have i3 : v + (0 + 1 + 1 + 1) = v + 1 + 1 + 1 := by (first | ((try clear ht); (try clear e1); (try clear e2); grind) | grind)
  have s0 : ((24 - (8 * 0)) &&& 31 : Int32) = 24 &&& 31 := by decide +kernel
  have s1 : ((24 - (8 * (0 + 1))) &&& 31 : Int32) = (24 + (-8)) &&& 31 := by decide +kernel
  have s2 : ((24 - (8 * (0 + 1 + 1))) &&& 31 : Int32) = (24 + (-8) + (-8)) &&& 31 := by decide +kernel
  have s3 : ((24 - (8 * (0 + 1 + 1 + 1))) &&& 31 : Int32) = (24 + (-8) + (-8) + (-8)) &&& 31 := by decide +kernel
  rw [i0, i1, i2, i3, s0, s1, s2, s3]
  exact zTp_up (zTp_up (zTp_up (zTp_up ht (zByte' _)) (zByte' _)) (zByte' _)) (zByte' _)
theorem zTp_feed {p1 p2 p3 p4 p5 v w : Int32} {f1 f2 g1 g2 : Nat → Int32} {o o' : Int32 × Int32 × (Nat → Int32) × (Nat → Int32)} (e : v = w) (hv : 0 ≤ v ∧ v ≤ 1200) (ht : zTp f1 g1) (h1 : fn_X11_feed p1 p2 p3 p4 p5 v f1 f2 = some o) (h2 : fn_X12_feed p1 p2 p3 p4 p5 w g1 g2 = some o') : zTp o.2.2.1 o'.2.2.1 := by
  subst e
  obtain ⟨hv1, hv2⟩ := hv
  unfold fn_X11_feed at h1
  unfold fn_X12_feed at h2
  by_cases c : v ≤ 1180
  · rw [if_pos c] at h1
    rw [if_pos (by lia)] at h2
    obtain ⟨a1, e1, h1⟩ := zb_s h1
    obtain ⟨a2, e2, h1⟩ := zb_s h1
    obtain ⟨a3, e3, h1⟩ := zb_s h1
    obtain ⟨a4, e4, h1⟩ := zb_s h1
    obtain ⟨a5, e5, h1⟩ := zb_s h1
    obtain ⟨b1, d1, h2⟩ := zb_s h2
    obtain ⟨b2, d2, h2⟩ := zb_s h2
    obtain ⟨b3, d3, h2⟩ := zb_s h2
    obtain ⟨b4, d4, h2⟩ := zb_s h2
    obtain ⟨b5, d5, h2⟩ := zb_s h2
    have q1 := zputlen e1 hv1 (by lia)
    have q2 := zputlen e2 (by lia) (by lia)
    have q3 := zputlen e3 (by lia) (by lia)
    have q4 := zputlen e4 (by lia) (by lia)
    have r1 := zlayslen d1
    have r2 := zlayslen d2
    have r3 := zlayslen d3
    have r4 := zlayslen d4
    rw [show b1.1 = a1.1 by rw [q1, r1]] at d2
    rw [show b2.1 = a2.1 by rw [r2, q2, show b1.1 = a1.1 by rw [q1, r1]]] at d3
    rw [show b3.1 = a3.1 by lia] at d4
    rw [show b4.1 = a4.1 by lia] at d5
    have t1 := zTp_put ht hv1 (by lia) e1 d1
    have t2 := zTp_put t1 (by lia) (by lia) e2 d2
    have t3 := zTp_put t2 (by lia) (by lia) e3 d3
    have t4 := zTp_put t3 (by lia) (by lia) e4 d4
    have t5 := zTp_put t4 (by lia) (by lia) e5 d5
    rw [← Option.some.inj h1, ← Option.some.inj h2]
    exact t5
  · rw [if_neg c] at h1
    rw [if_neg (by lia)] at h2
    obtain ⟨a1, e1, h1⟩ := zb_s h1
    obtain ⟨b1, d1, h2⟩ := zb_s h2
    rw [← Option.some.inj h1, ← Option.some.inj h2]
    exact ht
/-! GROUPS: the class counts them, the reference names each by its least NUMBER -/
noncomputable def zRk (G : Nat → Int32) : Nat → Int32 := zct (fun k => decide (G k = Int32.ofNat k))
theorem zRk_t {G : Nat → Int32} {p : Int32} (h0 : 0 ≤ p) (h1 : p ≤ 14) (h : G p.toNatClampNeg = p) : zRk G (p + 1).toNatClampNeg = zRk G p.toNatClampNeg + 1 :=
  zct_t h0 (by grind) (by show decide (G p.toNatClampNeg = Int32.ofNat p.toNatClampNeg) = true; rw [zofn' p h0]; exact decide_eq_true h)
theorem zRk_f {G : Nat → Int32} {p : Int32} (h0 : 0 ≤ p) (h1 : p ≤ 14) (h : ¬ G p.toNatClampNeg = p) : zRk G (p + 1).toNatClampNeg = zRk G p.toNatClampNeg :=
  zct_f h0 (by grind) (by show ¬ decide (G p.toNatClampNeg = Int32.ofNat p.toNatClampNeg) = true; rw [zofn' p h0]; exact fun q => h (of_decide_eq_true q))
theorem zRk_b {G : Nat → Int32} {p : Int32} (h0 : 0 ≤ p) (h1 : p ≤ 14) : 0 ≤ zRk G p.toNatClampNeg ∧ zRk G p.toNatClampNeg ≤ p := zct_b32 h0 h1
theorem zRk_lt {G : Nat → Int32} {a b : Int32} (h0 : 0 ≤ a) (h1 : a < b) (h2 : b ≤ 14) (hl : G a.toNatClampNeg = a) : zRk G a.toNatClampNeg < zRk G b.toNatClampNeg := by
  have e := zRk_t h0 (by grind) hl
  have m : zRk G (a + 1).toNatClampNeg ≤ zRk G b.toNatClampNeg := zct_m32 (by grind) (by grind) h2
  have r := zRk_b (G := G) h0 (show a ≤ 14 by grind)
  rw [e] at m
  generalize zRk G a.toNatClampNeg = u at m r ⊢
  generalize zRk G b.toNatClampNeg = v at m ⊢
  grind
theorem zRk_ne {G : Nat → Int32} {a b : Int32} (ha : 0 ≤ a ∧ a ≤ 14) (hb : 0 ≤ b ∧ b ≤ 14) (la : G a.toNatClampNeg = a) (lb : G b.toNatClampNeg = b) (h : ¬ a = b) : ¬ zRk G a.toNatClampNeg = zRk G b.toNatClampNeg := by
  intro q
  by_cases c : a < b
  · have := zRk_lt ha.1 c hb.2 la
    rw [q] at this
    grind
  · have := zRk_lt (G := G) hb.1 (show b < a by grind) ha.2 lb
    rw [q] at this
    grind
/-- how a GROUP (by its least NUMBER j) is fixed by the first m NUMBERS -/
noncomputable def zFxS (mG fx : Nat → Int32) (m j v : Int32) : Prop :=
  v = (-1) ∧ (∀ o : Int32, 0 ≤ o → o < m → mG o.toNatClampNeg = j → fx o.toNatClampNeg = (-1))
  ∨ v = (-2) ∧ (∃ o p : Int32, 0 ≤ o ∧ o < m ∧ 0 ≤ p ∧ p < m ∧ mG o.toNatClampNeg = j ∧ mG p.toNatClampNeg = j ∧ ¬ fx o.toNatClampNeg = (-1) ∧ ¬ fx p.toNatClampNeg = (-1) ∧ ¬ fx o.toNatClampNeg = fx p.toNatClampNeg)
  ∨ 0 ≤ v ∧ (∃ o : Int32, 0 ≤ o ∧ o < m ∧ mG o.toNatClampNeg = j ∧ fx o.toNatClampNeg = v) ∧ (∀ o : Int32, 0 ≤ o → o < m → mG o.toNatClampNeg = j → fx o.toNatClampNeg = (-1) ∨ fx o.toNatClampNeg = v)
theorem zFxS_o {mG fx : Nat → Int32} {i j v : Int32} (hi : 0 ≤ i ∧ i < 14) (hj : mG i.toNatClampNeg = j → fx i.toNatClampNeg = (-1) ∨ fx i.toNatClampNeg = v ∧ 0 ≤ v) (h : zFxS mG fx i j v) : zFxS mG fx (i + 1) j v := by
  have hs : ∀ o : Int32, o < i + 1 → o = i ∨ o < i := fun o ho => by (first | ((try clear h); (try clear hs); (try clear ho); grind) | grind)
  have hl : ∀ o : Int32, o < i → o < i + 1 := fun o ho => by (first | ((try clear h); (try clear hs); (try clear ho); (try clear hl); grind) | grind)
  rcases h with ⟨a1, a2⟩ | ⟨a1, o, p, b1, b2, b3, b4, b5⟩ | ⟨a1, ⟨o, b1, b2, b3⟩, a2⟩
  · refine Or.inl ⟨a1, fun o o1 o2 o3 => ?_⟩
    rcases hs o o2 with q | q
    · rw [q] at o3 ⊢
      rcases hj o3 with w | w
      · exact w
      · exact absurd w.2 (by rw [a1]; decide)
    · exact a2 o o1 q o3
  · exact Or.inr (Or.inl ⟨a1, o, p, b1, hl o b2, b3, hl p b4, b5⟩)
  · refine Or.inr (Or.inr ⟨a1, ⟨o, b1, hl o b2, b3⟩, fun u u1 u2 u3 => ?_⟩)
    rcases hs u u2 with q | q
    · rw [q] at u3 ⊢
      rcases hj u3 with w | w
      · exact Or.inl w
      · exact Or.inr w.1
    · exact a2 u u1 q u3
theorem zFxS_1 {mG fx : Nat → Int32} {i j : Int32} (hi : 0 ≤ i ∧ i < 14) (hj : mG i.toNatClampNeg = j) (hf : 0 ≤ fx i.toNatClampNeg) (h : zFxS mG fx i j (-1)) : zFxS mG fx (i + 1) j (fx i.toNatClampNeg) := by
  have hs : ∀ o : Int32, o < i + 1 → o = i ∨ o < i := fun o ho => by (first | ((try clear h); (try clear hs); (try clear ho); grind) | grind)
  rcases h with ⟨_, a2⟩ | ⟨a1, _⟩ | ⟨a1, _⟩
  · refine Or.inr (Or.inr ⟨hf, ⟨i, hi.1, by (first | ((try clear h); (try clear hs); (try clear ho); grind) | grind), hj, rfl⟩, fun u u1 u2 u3 => ?_⟩)
    rcases hs u u2 with q | q
    · rw [q]; exact Or.inr rfl
    · exact Or.inl (a2 u u1 q u3)
  · exact absurd a1 (by decide)
  · exact absurd a1 (by decide)
theorem zFxS_2 {mG fx : Nat → Int32} {i j v : Int32} (hi : 0 ≤ i ∧ i < 14) (hj : mG i.toNatClampNeg = j) (hf : 0 ≤ fx i.toNatClampNeg) (h1 : ¬ v = (-1)) (h2 : ¬ v = fx i.toNatClampNeg) (h : zFxS mG fx i j v) : zFxS mG fx (i + 1) j (-2) := by
  have hl : ∀ o : Int32, o < i → o < i + 1 := fun o ho => by (first | ((try clear h); (try clear hl); (try clear ho); grind) | grind)
  have hf1 : ¬ fx i.toNatClampNeg = (-1) := fun q => by rw [q] at hf; exact absurd hf (by decide)
  rcases h with ⟨a1, _⟩ | ⟨a1, o, p, b1, b2, b3, b4, b5⟩ | ⟨a1, ⟨o, b1, b2, b3, b4⟩, a2⟩
  · exact absurd a1 h1
  · exact Or.inr (Or.inl ⟨rfl, o, p, b1, hl o b2, b3, hl p b4, b5⟩)
  · exact Or.inr (Or.inl ⟨rfl, o, i, b1, hl o b2, hi.1, by (first | ((try clear h); (try clear hl); (try clear ho); grind) | grind), b3, hj, by rw [b4]; exact h1, hf1, by rw [b4]; exact h2⟩)
noncomputable def zGi (m gc gcl : Int32) (gof gfx gld fx mG : Nat → Int32) : Prop :=
  gc = zRk mG m.toNatClampNeg ∧ (∀ j : Int32, 0 ≤ j → j < m → gof j.toNatClampNeg = zRk mG (mG j.toNatClampNeg).toNatClampNeg) ∧ (∀ j : Int32, 0 ≤ j → j < m → mG j.toNatClampNeg = j → gld (zRk mG j.toNatClampNeg).toNatClampNeg = j ∧ zFxS mG fx m j (gfx (zRk mG j.toNatClampNeg).toNatClampNeg)) ∧ (gcl = 0 ∨ gcl = 1) ∧ (gcl = 0 → ∀ j : Int32, 0 ≤ j → j < m → mG j.toNatClampNeg = j → ¬ gfx (zRk mG j.toNatClampNeg).toNatClampNeg = (-2)) ∧ (gcl = 1 → ∃ j : Int32, 0 ≤ j ∧ j < m ∧ mG j.toNatClampNeg = j ∧ gfx (zRk mG j.toNatClampNeg).toNatClampNeg = (-2))
noncomputable def zGp (cN gc gfr gcl : Int32) (gof gfx gld fx mG : Nat → Int32) : Prop := zGi cN gc gcl gof gfx gld fx mG ∧ gfr = zct (fun k => decide (gfx k = (-1))) gc.toNatClampNeg
theorem zGi_0 {gof gfx gld fx mG : Nat → Int32} : zGi 0 0 0 gof gfx gld fx mG := by
  have no : ∀ i : Int32, 0 ≤ i → ¬ i < 0 := fun i h q => by (first | ((try clear no); grind) | grind)
  exact ⟨by rw [zn01.1]; rfl, fun j j1 j2 => absurd j2 (no j j1), fun j j1 j2 => absurd j2 (no j j1), Or.inl rfl, fun _ j j1 j2 => absurd j2 (no j j1), fun q => absurd q (by decide)⟩
theorem zEarl {i x : Int32} {jn gof : Nat → Int32} (h : fn_X2_earlierGroup i jn gof = some x) : (x = (-1) ∧ ∀ j : Int32, 0 ≤ j → j < i → ¬ jn j.toNatClampNeg = jn i.toNatClampNeg) ∨ (∃ j : Int32, 0 ≤ j ∧ j < i ∧ jn j.toNatClampNeg = jn i.toNatClampNeg ∧ x = gof j.toNatClampNeg) := by
  unfold fn_X2_earlierGroup at h
  refine zl_ip (P := fun x => (x = (-1) ∧ ∀ j : Int32, 0 ≤ j → j < i → ¬ jn j.toNatClampNeg = jn i.toNatClampNeg) ∨ (∃ j : Int32, 0 ≤ j ∧ j < i ∧ jn j.toNatClampNeg = jn i.toNatClampNeg ∧ x = gof j.toNatClampNeg)) (fun s => 0 ≤ s ∧ ∀ j : Int32, 0 ≤ j → j < s → ¬ jn j.toNatClampNeg = jn i.toNatClampNeg) ?_ _ _ _ ?_ h
  rotate_left
  · exact ⟨by decide, fun j j1 j2 => by (first | ((try clear h); grind) | grind)⟩
  intro s back o ⟨H1, H2⟩ hb ho
  by_cases c : i ≤ s
  · rw [if_pos c] at ho
    rw [← Option.some.inj ho]
    exact Or.inl ⟨rfl, fun j j1 j2 => H2 j j1 (by (first | ((try clear h); (try clear hb); (try clear ho); grind) | grind))⟩
  · rw [if_neg c] at ho
    obtain ⟨hs, ho⟩ := zg_s ho
    have hs := vp_in_iff.mp hs
    obtain ⟨-, ho⟩ := zg_s ho
    by_cases d : jn s.toNatClampNeg = jn i.toNatClampNeg
    · rw [if_pos d] at ho
      rw [← Option.some.inj ho]
      exact Or.inr ⟨s, H1, by (first | ((try clear h); (try clear hb); (try clear ho); grind) | grind), d, rfl⟩
    · rw [if_neg d] at ho
      have h13 : s < 14 := Int32.lt_iff_toInt_lt.mpr (by rw [show (14 : Int32).toInt = 14 by decide +kernel]; exact hs.2)
      refine hb _ _ ?_ ho
      refine ⟨by (first | ((try clear h); (try clear hb); (try clear ho); grind) | grind), fun j j1 j2 => ?_⟩
      by_cases q : j = s
      · rw [q]; exact d
      · exact H2 j j1 (by (first | ((try clear h); (try clear hb); (try clear ho); grind) | grind))
theorem zFix2 {g v cl : Int32} {gfx : Nat → Int32} {x : Int32 × (Nat → Int32)} (hc : cl = 0 ∨ cl = 1) (h : fn_X2_fix g v cl gfx = some x) : ((v = (-1) ∨ gfx g.toNatClampNeg = v) ∧ x = (cl, gfx)) ∨ (¬ v = (-1) ∧ gfx g.toNatClampNeg = (-1) ∧ x = (cl, upd gfx g.toNatClampNeg v)) ∨ (¬ v = (-1) ∧ ¬ gfx g.toNatClampNeg = v ∧ ¬ gfx g.toNatClampNeg = (-1) ∧ x = (1, upd gfx g.toNatClampNeg (-2))) := by
  unfold fn_X2_fix at h
  simp only [zj] at h
  by_cases c : v = (-1)
  · rw [if_pos c] at h
    exact Or.inl ⟨Or.inl c, (Option.some.inj h).symm⟩
  · rw [if_neg c] at h
    obtain ⟨-, h⟩ := zg_s h
    by_cases d : gfx g.toNatClampNeg = v
    · rw [if_pos d] at h
      exact Or.inl ⟨Or.inr d, (Option.some.inj h).symm⟩
    · rw [if_neg d] at h
      by_cases e : gfx g.toNatClampNeg = (-1)
      · simp only [if_pos e] at h
        rcases hc with z | z
        · rw [if_pos z] at h
          obtain ⟨-, h⟩ := zt_s h
          obtain ⟨-, h⟩ := zg_s h
          rw [z]
          exact Or.inr (Or.inl ⟨c, e, (Option.some.inj h).symm⟩)
        · rw [if_neg (by rw [z]; decide)] at h
          obtain ⟨-, h⟩ := zt_s h
          obtain ⟨-, h⟩ := zg_s h
          rw [z]
          exact Or.inr (Or.inl ⟨c, e, (Option.some.inj h).symm⟩)
      · simp only [if_neg e] at h
        rcases hc with z | z
        · rw [if_pos z] at h
          obtain ⟨-, h⟩ := zt_s h
          obtain ⟨-, h⟩ := zg_s h
          exact Or.inr (Or.inr ⟨c, d, e, (Option.some.inj h).symm⟩)
        · rw [if_neg (by rw [z]; decide)] at h
          obtain ⟨-, h⟩ := zt_s h
          obtain ⟨-, h⟩ := zg_s h
          exact Or.inr (Or.inr ⟨c, d, e, (Option.some.inj h).symm⟩)
theorem zGstep {cN i c' cl : Int32} {of' gfx' ld' fx jn mG : Nat → Int32} {z : Int32 × (Nat → Int32)} (hN : cN ≤ 14) (hi : 0 ≤ i ∧ i < cN) (hg : zG0 cN jn mG) (hx : (-1) ≤ fx i.toNatClampNeg) (A : c' = zRk mG (i + 1).toNatClampNeg) (B : ∀ j : Int32, 0 ≤ j → j < i + 1 → of' j.toNatClampNeg = zRk mG (mG j.toNatClampNeg).toNatClampNeg) (C : ∀ j : Int32, 0 ≤ j → j < i + 1 → mG j.toNatClampNeg = j → ld' (zRk mG j.toNatClampNeg).toNatClampNeg = j ∧ zFxS mG fx i j (gfx' (zRk mG j.toNatClampNeg).toNatClampNeg)) (D1 : cl = 0 ∨ cl = 1) (D2 : cl = 0 → ∀ j : Int32, 0 ≤ j → j < i + 1 → mG j.toNatClampNeg = j → ¬ gfx' (zRk mG j.toNatClampNeg).toNatClampNeg = (-2)) (D3 : cl = 1 → ∃ j : Int32, 0 ≤ j ∧ j < i + 1 ∧ mG j.toNatClampNeg = j ∧ gfx' (zRk mG j.toNatClampNeg).toNatClampNeg = (-2)) (hf : fn_X2_fix (of' i.toNatClampNeg) (fx i.toNatClampNeg) cl gfx' = some z) : zGi (i + 1) c' z.1 of' z.2 ld' fx mG := by
  have i14 : 0 ≤ i ∧ i < 14 := ⟨hi.1, by (first | ((try clear hg); (try clear B); (try clear C); (try clear D2); (try clear hf); grind) | grind)⟩
  obtain ⟨l1, l2, l3⟩ := hg.1 i hi.1 hi.2
  rw [B i hi.1 (by (first | ((try clear hg); (try clear B); (try clear C); (try clear D2); (try clear hf); grind) | grind))] at hf
  have g0 := (zRk_b (G := mG) (p := mG i.toNatClampNeg) l1 (by (first | ((try clear hg); (try clear B); (try clear C); (try clear D2); (try clear hf); grind) | grind))).1
  have nn : ∀ j : Int32, 0 ≤ j → j < i + 1 → 0 ≤ zRk mG j.toNatClampNeg := fun j j1 j2 => (zRk_b j1 (by (first | ((try clear hg); (try clear B); (try clear C); (try clear D2); (try clear hf); (try clear nn); grind) | grind))).1
  have inj : ∀ j : Int32, 0 ≤ j → j < i + 1 → mG j.toNatClampNeg = j → ¬ j = mG i.toNatClampNeg → ¬ zRk mG j.toNatClampNeg = zRk mG (mG i.toNatClampNeg).toNatClampNeg := fun j j1 j2 j3 j4 => zRk_ne ⟨j1, by (first | ((try clear hg); (try clear B); (try clear C); (try clear D2); (try clear hf); (try clear nn); (try clear inj); grind) | grind)⟩ ⟨l1, by (first | ((try clear hg); (try clear B); (try clear C); (try clear D2); (try clear hf); (try clear nn); (try clear inj); grind) | grind)⟩ j3 l3 j4
  rcases zFix2 D1 hf with ⟨w, rfl⟩ | ⟨w1, w2, rfl⟩ | ⟨w1, w2, w3, rfl⟩
  · refine ⟨A, B, fun j j1 j2 j3 => ⟨(C j j1 j2 j3).1, zFxS_o i14 (fun q => ?_) (C j j1 j2 j3).2⟩, D1, D2, D3⟩
    by_cases e : fx i.toNatClampNeg = (-1)
    · exact Or.inl e
    · rcases w with w | w
      · exact absurd w e
      · rw [q] at w
        exact Or.inr ⟨w.symm, by show 0 ≤ gfx' (zRk mG j.toNatClampNeg).toNatClampNeg; rw [w]; (first | ((try clear hg); (try clear B); (try clear C); (try clear D2); (try clear hf); (try clear nn); (try clear inj); grind) | grind)⟩
  · have hf0 : 0 ≤ fx i.toNatClampNeg := by (first | ((try clear hg); (try clear B); (try clear C); (try clear D2); (try clear hf); (try clear nn); (try clear inj); grind) | grind)
    refine ⟨A, B, fun j j1 j2 j3 => ⟨(C j j1 j2 j3).1, ?_⟩, D1, fun q j j1 j2 j3 => ?_, fun q => ?_⟩
    · show zFxS mG fx (i + 1) j (upd gfx' (zRk mG (mG i.toNatClampNeg).toNatClampNeg).toNatClampNeg (fx i.toNatClampNeg) (zRk mG j.toNatClampNeg).toNatClampNeg)
      rw [zup g0 (nn j j1 j2)]
      by_cases e : j = mG i.toNatClampNeg
      · rw [if_pos (by rw [e])]
        have k := (C j j1 j2 j3).2
        rw [show gfx' (zRk mG j.toNatClampNeg).toNatClampNeg = (-1) by rw [e]; exact w2] at k
        exact zFxS_1 i14 e.symm hf0 k
      · rw [if_neg (inj j j1 j2 j3 e)]
        exact zFxS_o i14 (fun q => absurd q.symm e) (C j j1 j2 j3).2
    · show ¬ upd gfx' (zRk mG (mG i.toNatClampNeg).toNatClampNeg).toNatClampNeg (fx i.toNatClampNeg) (zRk mG j.toNatClampNeg).toNatClampNeg = (-2)
      rw [zup g0 (nn j j1 j2)]
      by_cases e : zRk mG j.toNatClampNeg = zRk mG (mG i.toNatClampNeg).toNatClampNeg
      · rw [if_pos e]
        intro w
        rw [w] at hf0
        exact absurd hf0 (by decide)
      · rw [if_neg e]; exact D2 q j j1 j2 j3
    · obtain ⟨j, j1, j2, j3, j4⟩ := D3 q
      refine ⟨j, j1, j2, j3, ?_⟩
      show upd gfx' (zRk mG (mG i.toNatClampNeg).toNatClampNeg).toNatClampNeg (fx i.toNatClampNeg) (zRk mG j.toNatClampNeg).toNatClampNeg = (-2)
      rw [zup g0 (nn j j1 j2), if_neg ?_]
      · exact j4
      · intro e
        rw [e, w2] at j4
        exact absurd j4 (by decide)
  · have hf0 : 0 ≤ fx i.toNatClampNeg := by (first | ((try clear hg); (try clear B); (try clear C); (try clear D2); (try clear hf); (try clear nn); (try clear inj); grind) | grind)
    refine ⟨A, B, fun j j1 j2 j3 => ⟨(C j j1 j2 j3).1, ?_⟩, Or.inr rfl, fun q => absurd q (show ¬ (1 : Int32) = 0 by decide), fun _ => ⟨mG i.toNatClampNeg, l1, by (first | ((try clear hg); (try clear B); (try clear C); (try clear D2); (try clear hf); (try clear nn); (try clear inj); grind) | grind), l3, ?_⟩⟩
    · show zFxS mG fx (i + 1) j (upd gfx' (zRk mG (mG i.toNatClampNeg).toNatClampNeg).toNatClampNeg (-2) (zRk mG j.toNatClampNeg).toNatClampNeg)
      rw [zup g0 (nn j j1 j2)]
      by_cases e : j = mG i.toNatClampNeg
      · rw [if_pos (by rw [e])]
        have k := (C j j1 j2 j3).2
        rw [← e] at w2 w3
        exact zFxS_2 i14 e.symm hf0 w3 w2 k
      · rw [if_neg (inj j j1 j2 j3 e)]
        exact zFxS_o i14 (fun q => absurd q.symm e) (C j j1 j2 j3).2
    · show upd gfx' (zRk mG (mG i.toNatClampNeg).toNatClampNeg).toNatClampNeg (-2) (zRk mG (mG i.toNatClampNeg).toNatClampNeg).toNatClampNeg = (-2)
      rw [zup g0 g0, if_pos rfl]
set_option maxHeartbeats 4000000 in
theorem zGather {cN : Int32} {jn fx mG a b c : Nat → Int32} {x : Int32 × Int32 × Int32 × (Nat → Int32) × (Nat → Int32) × (Nat → Int32)} (hN : 0 ≤ cN ∧ cN ≤ 14) (hg : zG0 cN jn mG) (hx : ∀ i : Int32, 0 ≤ i → i < cN → (-1) ≤ fx i.toNatClampNeg) (h : fn_X2_gather cN jn a b c fx = some x) : zGp cN x.1 x.2.1 x.2.2.1 x.2.2.2.1 x.2.2.2.2.2 x.2.2.2.2.1 fx mG := by
  unfold fn_X2_gather at h
  refine zl_ip (P := fun x : Int32 × Int32 × Int32 × (Nat → Int32) × (Nat → Int32) × (Nat → Int32) => zGp cN x.1 x.2.1 x.2.2.1 x.2.2.2.1 x.2.2.2.2.2 x.2.2.2.2.1 fx mG) (fun s => 0 ≤ s.1 ∧ s.1 ≤ cN ∧ zGi s.1 s.2.1 s.2.2.1 s.2.2.2.1 s.2.2.2.2.1 s.2.2.2.2.2 fx mG) ?_ _ _ _ ?_ h
  rotate_left
  · exact ⟨(show (0 : Int32) ≤ 0 by decide), hN.1, zGi_0⟩
  intro s back o ⟨H1, H2, HG⟩ hb ho
  obtain ⟨i, cnt, cl, of, gfx, ld⟩ := s
  dsimp only at H1 H2 HG ho hb
  by_cases c1 : cN ≤ i
  · rw [if_pos c1] at ho
    have e : i = cN := by (first | ((try clear hg); (try clear hx); (try clear h); (try clear hb); (try clear ho); grind) | grind)
    subst e
    have hc := zRk_b (G := mG) (p := i) H1 hN.2
    rw [← HG.1] at hc
    refine zl_ip (P := fun x : Int32 × Int32 × Int32 × (Nat → Int32) × (Nat → Int32) × (Nat → Int32) => zGp i x.1 x.2.1 x.2.2.1 x.2.2.2.1 x.2.2.2.2.2 x.2.2.2.2.1 fx mG) (fun t => 0 ≤ t.1 ∧ t.1 ≤ cnt ∧ t.2 = zct (fun k => decide (gfx k = (-1))) t.1.toNatClampNeg) ?_ _ _ _ ?_ ho
    rotate_left
    · exact ⟨(show (0 : Int32) ≤ 0 by decide), hc.1, by show (0 : Int32) = zct _ (0 : Int32).toNatClampNeg; rw [zn01.1]; rfl⟩
    intro t back' o' ⟨K1, K2, K3⟩ hb' ho'
    obtain ⟨g, n⟩ := t
    dsimp only at K1 K2 K3 ho' hb'
    by_cases c2 : cnt ≤ g
    · rw [if_pos c2] at ho'
      have e' : g = cnt := by (first | ((try clear hg); (try clear hx); (try clear h); (try clear hb); (try clear ho); grind) | grind)
      rw [← Option.some.inj ho']
      exact ⟨HG, by show n = _; rw [K3, e']⟩
    · rw [if_neg c2] at ho'
      obtain ⟨-, ho'⟩ := zg_s ho'
      by_cases d : gfx g.toNatClampNeg = (-1)
      · rw [if_pos d] at ho'
        refine hb' _ _ ?_ ho'
        refine ⟨?_, ?_, ?_⟩
        · show 0 ≤ g + 1
          (first | ((try clear hg); (try clear hx); (try clear h); (try clear hb); (try clear ho); (try clear ho'); grind) | grind)
        · show g + 1 ≤ cnt
          (first | ((try clear hg); (try clear hx); (try clear h); (try clear hb); (try clear ho); (try clear ho'); grind) | grind)
        · show n + 1 = zct _ (g + 1).toNatClampNeg
          rw [zct_t K1 (by (first | ((try clear hg); (try clear hx); (try clear h); (try clear hb); (try clear ho); (try clear ho'); grind) | grind)) (decide_eq_true d), K3]
      · rw [if_neg d] at ho'
        refine hb' _ _ ?_ ho'
        refine ⟨?_, ?_, ?_⟩
        · show 0 ≤ g + 1
          (first | ((try clear hg); (try clear hx); (try clear h); (try clear hb); (try clear ho); (try clear ho'); grind) | grind)
        · show g + 1 ≤ cnt
          (first | ((try clear hg); (try clear hx); (try clear h); (try clear hb); (try clear ho); (try clear ho'); grind) | grind)
        · show n + 0 = zct _ (g + 1).toNatClampNeg
          rw [zct_f K1 (by (first | ((try clear hg); (try clear hx); (try clear h); (try clear hb); (try clear ho); (try clear ho'); grind) | grind)) (fun q => d (of_decide_eq_true q)), K3, Int32.add_zero]
  · rw [if_neg c1] at ho
    obtain ⟨e7, he7, ho⟩ := zb_s ho
    obtain ⟨-, ho⟩ := zg_s ho
    simp only [zj, zn] at ho
    have e8 : upd of i.toNatClampNeg e7 i.toNatClampNeg = e7 := if_pos rfl
    have hi : 0 ≤ i ∧ i < cN := ⟨H1, by (first | ((try clear hg); (try clear hx); (try clear h); (try clear hb); (try clear ho); (try clear ho'); (try clear he7); grind) | grind)⟩
    obtain ⟨l1, l2, l3⟩ := hg.1 i hi.1 hi.2
    obtain ⟨G1, G2, G3, G4, G5, G6⟩ := HG
    have hs : ∀ j : Int32, j < i + 1 → j = i ∨ j < i := fun o ho => by (first | ((try clear hg); (try clear hx); (try clear h); (try clear hb); (try clear ho); (try clear ho'); (try clear he7); (try clear hs); grind) | grind)
    rcases zEarl he7 with ⟨w1, w2⟩ | ⟨j0, j1, j2, j3, j4⟩
    · have hl : mG i.toNatClampNeg = i := by
        by_cases q : mG i.toNatClampNeg = i
        · exact q
        · have hlt : mG i.toNatClampNeg < i := by (first | ((try clear hg); (try clear hx); (try clear h); (try clear hb); (try clear ho); (try clear ho'); (try clear he7); (try clear hs); grind) | grind)
          exact absurd ((hg.2 (mG i.toNatClampNeg) i l1 (by (first | ((try clear hg); (try clear hx); (try clear h); (try clear hb); (try clear ho); (try clear ho'); (try clear he7); (try clear hs); grind) | grind)) hi.1 hi.2).mpr l3) (w2 _ l1 hlt)
      rw [if_pos (e8.trans w1)] at ho
      obtain ⟨-, ho⟩ := zg_s ho
      obtain ⟨-, ho⟩ := zg_s ho
      obtain ⟨z, hz, ho⟩ := zb_s ho
      have hr := zRk_b (G := mG) (p := i) H1 (by (first | ((try clear hg); (try clear hx); (try clear h); (try clear hb); (try clear ho); (try clear ho'); (try clear he7); (try clear hs); (try clear hz); grind) | grind))
      have nn : ∀ j : Int32, 0 ≤ j → j < i + 1 → 0 ≤ zRk mG j.toNatClampNeg := fun j j1 j2 => (zRk_b j1 (by (first | ((try clear hg); (try clear hx); (try clear h); (try clear hb); (try clear ho); (try clear ho'); (try clear he7); (try clear hs); (try clear hz); (try clear nn); grind) | grind))).1
      have ne : ∀ j : Int32, 0 ≤ j → j < i → mG j.toNatClampNeg = j → ¬ zRk mG j.toNatClampNeg = zRk mG i.toNatClampNeg := fun j j1 j2 j3 => zRk_ne ⟨j1, by (first | ((try clear hg); (try clear hx); (try clear h); (try clear hb); (try clear ho); (try clear ho'); (try clear he7); (try clear hs); (try clear hz); (try clear nn); (try clear ne); grind) | grind)⟩ ⟨H1, by (first | ((try clear hg); (try clear hx); (try clear h); (try clear hb); (try clear ho); (try clear ho'); (try clear he7); (try clear hs); (try clear hz); (try clear nn); (try clear ne); grind) | grind)⟩ j3 hl (by (first | ((try clear hg); (try clear hx); (try clear h); (try clear hb); (try clear ho); (try clear ho'); (try clear he7); (try clear hs); (try clear hz); (try clear nn); (try clear ne); grind) | grind))
      subst G1
      have st := zGstep (cN := cN) (i := i) (c' := zRk mG i.toNatClampNeg + 1) (of' := upd (upd of i.toNatClampNeg e7) i.toNatClampNeg (zRk mG i.toNatClampNeg)) (gfx' := upd gfx (zRk mG i.toNatClampNeg).toNatClampNeg (-1)) (ld' := upd ld (zRk mG i.toNatClampNeg).toNatClampNeg i) hN.2 hi hg (hx i hi.1 hi.2) (zRk_t H1 (by (first | ((try clear hg); (try clear hx); (try clear h); (try clear hb); (try clear ho); (try clear ho'); (try clear he7); (try clear hs); (try clear hz); (try clear nn); (try clear ne); grind) | grind)) hl).symm (fun j j1 j2 => ?_) (fun j j1 j2 j3 => ?_) G4 (fun q j j1 j2 j3 => ?_) (fun q => ?_) hz
      · refine hb _ _ ?_ ho
        refine ⟨?_, ?_, st⟩
        · show 0 ≤ i + 1
          (first | ((try clear hg); (try clear hx); (try clear h); (try clear hb); (try clear ho); (try clear ho'); (try clear he7); (try clear hs); (try clear hz); (try clear nn); (try clear ne); grind) | grind)
        · show i + 1 ≤ cN
          (first | ((try clear hg); (try clear hx); (try clear h); (try clear hb); (try clear ho); (try clear ho'); (try clear he7); (try clear hs); (try clear hz); (try clear nn); (try clear ne); grind) | grind)
      · rw [zup H1 j1, zup H1 j1]
        by_cases q : j = i
        · rw [if_pos q, q, hl]
        · rw [if_neg q, if_neg q]; exact G2 j j1 (by (first | ((try clear hg); (try clear hx); (try clear h); (try clear hb); (try clear ho); (try clear ho'); (try clear he7); (try clear hs); (try clear hz); (try clear nn); (try clear ne); grind) | grind))
      · rw [zup hr.1 (nn j j1 j2), zup hr.1 (nn j j1 j2)]
        by_cases q : j = i
        · rw [if_pos (by rw [q]), if_pos (by rw [q])]
          exact ⟨q.symm, Or.inl ⟨rfl, fun o o1 o2 o3 => absurd (hg.1 o o1 (by (first | ((try clear hg); (try clear hx); (try clear h); (try clear hb); (try clear ho); (try clear ho'); (try clear he7); (try clear hs); (try clear hz); (try clear nn); (try clear ne); grind) | grind))).2.1 (by rw [o3, q]; (first | ((try clear hg); (try clear hx); (try clear h); (try clear hb); (try clear ho); (try clear ho'); (try clear he7); (try clear hs); (try clear hz); (try clear nn); (try clear ne); grind) | grind))⟩⟩
        · have lt : j < i := by (first | ((try clear hg); (try clear hx); (try clear h); (try clear hb); (try clear ho); (try clear ho'); (try clear he7); (try clear hs); (try clear hz); (try clear nn); (try clear ne); grind) | grind)
          rw [if_neg (ne j j1 lt j3), if_neg (ne j j1 lt j3)]
          exact G3 j j1 lt j3
      · rw [zup hr.1 (nn j j1 j2)]
        by_cases w : j = i
        · rw [if_pos (by rw [w])]; decide
        · have lt : j < i := by (first | ((try clear hg); (try clear hx); (try clear h); (try clear hb); (try clear ho); (try clear ho'); (try clear he7); (try clear hs); (try clear hz); (try clear nn); (try clear ne); grind) | grind)
          rw [if_neg (ne j j1 lt j3)]; exact G5 q j j1 lt j3
      · obtain ⟨j, j1, j2, j3, j4⟩ := G6 q
        refine ⟨j, j1, by (first | ((try clear hg); (try clear hx); (try clear h); (try clear hb); (try clear ho); (try clear ho'); (try clear he7); (try clear hs); (try clear hz); (try clear nn); (try clear ne); grind) | grind), j3, ?_⟩
        rw [zup hr.1 (nn j j1 (by (first | ((try clear hg); (try clear hx); (try clear h); (try clear hb); (try clear ho); (try clear ho'); (try clear he7); (try clear hs); (try clear hz); (try clear nn); (try clear ne); grind) | grind))), if_neg (ne j j1 j2 j3)]
        exact j4
    · have hm : mG j0.toNatClampNeg = mG i.toNatClampNeg := (hg.2 j0 i j1 (by (first | ((try clear hg); (try clear hx); (try clear h); (try clear hb); (try clear ho); (try clear ho'); (try clear he7); (try clear hs); (try clear hz); (try clear nn); (try clear ne); grind) | grind)) hi.1 hi.2).mp j3
      have hj := hg.1 j0 j1 (by (first | ((try clear hg); (try clear hx); (try clear h); (try clear hb); (try clear ho); (try clear ho'); (try clear he7); (try clear hs); (try clear hz); (try clear nn); (try clear ne); (try clear hj); grind) | grind))
      have hl : ¬ mG i.toNatClampNeg = i := by (first | ((try clear hg); (try clear hx); (try clear h); (try clear hb); (try clear ho); (try clear ho'); (try clear he7); (try clear hs); (try clear hz); (try clear nn); (try clear ne); (try clear hj); grind) | grind)
      have e9 : e7 = zRk mG (mG i.toNatClampNeg).toNatClampNeg := by rw [j4, G2 j0 j1 j2, hm]
      have r7 := (zRk_b (G := mG) (p := mG i.toNatClampNeg) l1 (by (first | ((try clear hg); (try clear hx); (try clear h); (try clear hb); (try clear ho); (try clear ho'); (try clear he7); (try clear hs); (try clear hz); (try clear nn); (try clear ne); (try clear hj); grind) | grind))).1
      rw [if_neg (by rw [e8, e9]; intro q; rw [q] at r7; exact absurd r7 (by decide))] at ho
      obtain ⟨-, ho⟩ := zg_s ho
      obtain ⟨z, hz, ho⟩ := zb_s ho
      have st := zGstep (cN := cN) (i := i) (c' := cnt) (of' := upd of i.toNatClampNeg e7) (gfx' := gfx) (ld' := ld) hN.2 hi hg (hx i hi.1 hi.2) (by rw [G1]; exact (zRk_f H1 (by (first | ((try clear hg); (try clear hx); (try clear h); (try clear hb); (try clear ho); (try clear ho'); (try clear he7); (try clear hs); (try clear hz); (try clear nn); (try clear ne); (try clear hj); grind) | grind)) hl).symm) (fun j j1 j2 => ?_) (fun j j1 j2 j3 => ?_) G4 (fun q j j1 j2 j3 => ?_) (fun q => ?_) hz
      · refine hb _ _ ?_ ho
        refine ⟨?_, ?_, st⟩
        · show 0 ≤ i + 1
          (first | ((try clear hg); (try clear hx); (try clear h); (try clear hb); (try clear ho); (try clear ho'); (try clear he7); (try clear hs); (try clear hz); (try clear nn); (try clear ne); (try clear hj); grind) | grind)
        · show i + 1 ≤ cN
          (first | ((try clear hg); (try clear hx); (try clear h); (try clear hb); (try clear ho); (try clear ho'); (try clear he7); (try clear hs); (try clear hz); (try clear nn); (try clear ne); (try clear hj); grind) | grind)
      · rw [zup H1 j1]
        by_cases q : j = i
        · rw [if_pos q, q, e9]
        · rw [if_neg q]; exact G2 j j1 (by (first | ((try clear hg); (try clear hx); (try clear h); (try clear hb); (try clear ho); (try clear ho'); (try clear he7); (try clear hs); (try clear hz); (try clear nn); (try clear ne); (try clear hj); grind) | grind))
      · exact G3 j j1 (by (first | ((try clear hg); (try clear hx); (try clear h); (try clear hb); (try clear ho); (try clear ho'); (try clear he7); (try clear hs); (try clear hz); (try clear nn); (try clear ne); (try clear hj); grind) | grind)) j3
      · exact G5 q j j1 (by (first | ((try clear hg); (try clear hx); (try clear h); (try clear hb); (try clear ho); (try clear ho'); (try clear he7); (try clear hs); (try clear hz); (try clear nn); (try clear ne); (try clear hj); grind) | grind)) j3
      · obtain ⟨j, j1, j2, j3, j4⟩ := G6 q
        exact ⟨j, j1, by (first | ((try clear hg); (try clear hx); (try clear h); (try clear hb); (try clear ho); (try clear ho'); (try clear he7); (try clear hs); (try clear hz); (try clear nn); (try clear ne); (try clear hj); grind) | grind), j3, j4⟩
/-! what follows of it -/
theorem zGp_eq {cN gc gfr gcl : Int32} {fx jn gof gfx gld mG : Nat → Int32} {i j : Int32} (hN : cN ≤ 14) (hg : zG0 cN jn mG) (G : zGp cN gc gfr gcl gof gfx gld fx mG) (hi : 0 ≤ i ∧ i < cN) (hj : 0 ≤ j ∧ j < cN) : gof i.toNatClampNeg = gof j.toNatClampNeg ↔ mG i.toNatClampNeg = mG j.toNatClampNeg := by
  rw [G.1.2.1 i hi.1 hi.2, G.1.2.1 j hj.1 hj.2]
  obtain ⟨a1, a2, a3⟩ := hg.1 i hi.1 hi.2
  obtain ⟨b1, b2, b3⟩ := hg.1 j hj.1 hj.2
  constructor
  · intro q
    by_cases e : mG i.toNatClampNeg = mG j.toNatClampNeg
    · exact e
    · exact absurd q (zRk_ne ⟨a1, by (first | ((try clear hg); (try clear G); grind) | grind)⟩ ⟨b1, by (first | ((try clear hg); (try clear G); grind) | grind)⟩ a3 b3 e)
  · intro q
    rw [q]
noncomputable def zFree (cN : Int32) (mG fx : Nat → Int32) (g : Int32) : Prop := ∀ o : Int32, 0 ≤ o → o < cN → mG o.toNatClampNeg = g → fx o.toNatClampNeg = (-1)
theorem zGp_fx {cN gc gfr gcl : Int32} {fx jn gof gfx gld mG : Nat → Int32} {i : Int32} (hN : cN ≤ 14) (hg : zG0 cN jn mG) (G : zGp cN gc gfr gcl gof gfx gld fx mG) (hi : 0 ≤ i ∧ i < cN) : zFxS mG fx cN (mG i.toNatClampNeg) (gfx (gof i.toNatClampNeg).toNatClampNeg) := by
  obtain ⟨a1, a2, a3⟩ := hg.1 i hi.1 hi.2
  rw [G.1.2.1 i hi.1 hi.2]
  exact (G.1.2.2.1 (mG i.toNatClampNeg) a1 (by (first | ((try clear hg); (try clear G); grind) | grind)) a3).2
theorem zFxS_f {cN j v : Int32} {mG fx : Nat → Int32} (h : zFxS mG fx cN j v) : v = (-1) ↔ zFree cN mG fx j := by
  rcases h with ⟨a1, a2⟩ | ⟨a1, o, p, b1, b2, b3, b4, b5, b6, b7, b8, b9⟩ | ⟨a1, ⟨o, b1, b2, b3, b4⟩, a2⟩
  · exact ⟨fun _ => a2, fun _ => a1⟩
  · exact ⟨fun q => absurd (a1.symm.trans q) (by decide), fun q => absurd (q o b1 b2 b5) b7⟩
  · refine ⟨fun q => absurd a1 (by rw [q]; decide), fun q => ?_⟩
    rw [← b4]
    exact q o b1 b2 b3
theorem zFreeC (gfx mG : Nat → Int32) : ∀ k : Nat, k ≤ 14 → zct (fun g => decide (gfx g = (-1))) (zRk mG k).toNatClampNeg = zct (fun k => decide (mG k = Int32.ofNat k ∧ gfx (zRk mG k).toNatClampNeg = (-1))) k := by
  intro k
  induction k with
  | zero =>
    intro _
    show zct _ (0 : Int32).toNatClampNeg = 0
    rw [zn01.1]
    rfl
  | succ k ih =>
    intro hk
    have h := ih (by omega)
    have hb := zct_b (fun k => decide (mG k = Int32.ofNat k)) k (by omega)
    have r : 0 ≤ zRk mG k ∧ zRk mG k ≤ 1200 := ⟨Int32.le_iff_toInt_le.mpr (by rw [zi_0]; exact hb.1), Int32.le_iff_toInt_le.mpr (by rw [z1200]; exact Int.le_trans hb.2 (by omega))⟩
    by_cases c : mG k = Int32.ofNat k
    · have e : zRk mG (k + 1) = zRk mG k + 1 := by
        show zRk mG k + (if decide (mG k = Int32.ofNat k) = true then 1 else 0) = _
        rw [if_pos (decide_eq_true c)]
      by_cases d : gfx (zRk mG k).toNatClampNeg = (-1)
      · rw [e, zct_t r.1 r.2 (decide_eq_true d), h]
        show _ = zct _ k + (if decide (mG k = Int32.ofNat k ∧ gfx (zRk mG k).toNatClampNeg = (-1)) = true then 1 else 0)
        rw [if_pos (decide_eq_true ⟨c, d⟩)]
      · rw [e, zct_f r.1 r.2 (fun q => d (of_decide_eq_true q)), h]
        show _ = zct _ k + (if decide (mG k = Int32.ofNat k ∧ gfx (zRk mG k).toNatClampNeg = (-1)) = true then 1 else 0)
        rw [if_neg (fun q => d (of_decide_eq_true q).2)]
        exact (Int32.add_zero _).symm
    · have e : zRk mG (k + 1) = zRk mG k := by
        show zRk mG k + (if decide (mG k = Int32.ofNat k) = true then 1 else 0) = _
        rw [if_neg (fun q => c (of_decide_eq_true q))]
        exact Int32.add_zero _
      rw [e, h]
      show _ = zct _ k + (if decide (mG k = Int32.ofNat k ∧ gfx (zRk mG k).toNatClampNeg = (-1)) = true then 1 else 0)
      rw [if_neg (fun q => c (of_decide_eq_true q).1)]
      exact (Int32.add_zero _).symm
/-! what is told of a TASK -/
theorem zct_lt {b : Nat → Bool} {a c : Int32} (h0 : 0 ≤ a) (h1 : a < c) (h2 : c ≤ 14) (hl : b a.toNatClampNeg = true) : zct b a.toNatClampNeg < zct b c.toNatClampNeg := by
  have e := zct_t h0 (show a ≤ 1200 by grind) hl
  have m : zct b (a + 1).toNatClampNeg ≤ zct b c.toNatClampNeg := zct_m32 (by grind) (by grind) h2
  have r := zct_b32 (b := b) h0 (show a ≤ 14 by grind)
  rw [e] at m
  generalize zct b a.toNatClampNeg = u at m r ⊢
  generalize zct b c.toNatClampNeg = v at m ⊢
  grind
theorem zcnt_loop {b : Nat → Bool} {n x : Int32} {B : Int32 × Int32 → (Int32 × Int32 → Option Int32) → Option Int32} (hn : 0 ≤ n ∧ n ≤ 14) (hB : ∀ (c i : Int32) (back : Int32 × Int32 → Option Int32) (o : Int32), 0 ≤ i → B (c, i) back = some o → (n ≤ i ∧ o = c) ∨ (i < n ∧ b i.toNatClampNeg = true ∧ back (c + 1, i + 1) = some o) ∨ (i < n ∧ ¬ b i.toNatClampNeg = true ∧ back (c + 0, i + 1) = some o)) (h : zl B 100000 (0, 0) = some x) : x = zct b n.toNatClampNeg := by
  refine zl_ip (P := fun x => x = zct b n.toNatClampNeg) (fun s => 0 ≤ s.2 ∧ s.2 ≤ n ∧ s.1 = zct b s.2.toNatClampNeg) ?_ _ _ _ ?_ h
  rotate_left
  · exact ⟨(show (0 : Int32) ≤ 0 by decide), hn.1, by show (0 : Int32) = zct _ (0 : Int32).toNatClampNeg; rw [zn01.1]; rfl⟩
  intro s back o ⟨H1, H2, H3⟩ hb ho
  obtain ⟨c, i⟩ := s
  dsimp only at H1 H2 H3
  rcases hB c i back o H1 ho with ⟨a1, a2⟩ | ⟨a1, a2, a3⟩ | ⟨a1, a2, a3⟩
  · rw [a2, H3, show i = n by (first | ((try clear hB); (try clear hb); (try clear ho); grind) | grind)]
  · refine hb _ _ ?_ a3
    exact ⟨(show 0 ≤ i + 1 by (first | ((try clear hB); (try clear hb); (try clear ho); grind) | grind)), (show i + 1 ≤ n by (first | ((try clear hB); (try clear hb); (try clear ho); grind) | grind)), (show c + 1 = zct b (i + 1).toNatClampNeg by rw [zct_t H1 (by (first | ((try clear hB); (try clear hb); (try clear ho); grind) | grind)) a2, H3])⟩
  · refine hb _ _ ?_ a3
    exact ⟨(show 0 ≤ i + 1 by (first | ((try clear hB); (try clear hb); (try clear ho); grind) | grind)), (show i + 1 ≤ n by (first | ((try clear hB); (try clear hb); (try clear ho); grind) | grind)), (show c + 0 = zct b (i + 1).toNatClampNeg by rw [zct_f H1 (by (first | ((try clear hB); (try clear hb); (try clear ho); grind) | grind)) a2, H3, Int32.add_zero])⟩
theorem zHasN (p n : Int32) : fn_X9_hasNumber p n = some (if 0 ≤ p ∧ p < n then 1 else 0) := by
  unfold fn_X9_hasNumber
  grind
theorem zHasF (p n : Int32) : fn_X9_hasFormat p n = some (if 0 ≤ p ∧ p < n then 1 else 0) := by
  unfold fn_X9_hasFormat
  grind
theorem zIsNum {p : Int32} {f : Nat → Int32} (h : 0 ≤ f 0) : fn_X12_isNumber p f = some (if 0 ≤ p ∧ p < f 0 then 1 else 0) := by
  unfold fn_X12_isNumber
  simp only [zIsIn, zb_some, zn01.1, z64_ge0, z64_ltm _ _ h]
theorem zIsFmt {p : Int32} {f : Nat → Int32} (h : 0 ≤ f 0) : fn_X12_isFormat p f = some (if 0 ≤ p ∧ p < f 0 then 1 else 0) := by
  unfold fn_X12_isFormat
  simp only [zIsIn, zb_some, zn01.1, z64_ge0, z64_ltm _ _ h]
theorem zMade0 {i cN : Int32} {made : Nat → Int32} (hN : cN ≤ 14) (hi : 0 ≤ i ∧ i < cN) : fn_X4_madeOf i 0 cN made = some (made (2 * i + 0).toNatClampNeg) := by
  unfold fn_X4_madeOf
  rw [if_neg (by grind), if_neg (by grind), if_neg (by decide), if_neg (by decide), zg_in 28 (by decide +kernel) (by grind)]
theorem zMade1 {i cN : Int32} {made : Nat → Int32} (hN : cN ≤ 14) (hi : 0 ≤ i ∧ i < cN) : fn_X4_madeOf i 1 cN made = some (made (2 * i + 1).toNatClampNeg) := by
  unfold fn_X4_madeOf
  rw [if_neg (by grind), if_neg (by grind), if_neg (by decide), if_neg (by decide), zg_in 28 (by decide +kernel) (by grind)]
theorem zAmt0 {i cN : Int32} {made : Nat → Int32} (hN : cN ≤ 14) (hi : 0 ≤ i ∧ i < cN) : fn_X4_amountOf i 0 cN made = some (made (2 * i + 0).toNatClampNeg).toInt64 := by
  unfold fn_X4_amountOf
  rw [if_neg (by grind), if_neg (by grind), if_neg (by decide), if_neg (by decide), zg_in 28 (by decide +kernel) (by grind)]
theorem zAmt1 {i cN : Int32} {made : Nat → Int32} (hN : cN ≤ 14) (hi : 0 ≤ i ∧ i < cN) : fn_X4_amountOf i 1 cN made = some (made (2 * i + 1).toNatClampNeg).toInt64 := by
  unfold fn_X4_amountOf
  rw [if_neg (by grind), if_neg (by grind), if_neg (by decide), if_neg (by decide), zg_in 28 (by decide +kernel) (by grind)]
theorem zif1 {c : Prop} [Decidable c] : ((if c then (1 : Int32) else 0) = 0) = ¬ c := by
  by_cases h : c
  · rw [if_pos h]; exact propext ⟨fun q => absurd q (by decide), fun q => absurd h q⟩
  · rw [if_neg h]; exact propext ⟨fun _ => h, fun _ => rfl⟩
theorem zeq_format {cF cc cN inp : Int32} {nF nN stp mst prc al made amt op fx jn lets mF mN mCst mNF mNN mS mM mC mW mO m1 m2 mX mG : Nat → Int32} {mA mB : Nat → Int64} {p1 p2 x y : Int32} (T : zTN cF cc cN inp nF nN stp mst prc al made amt op fx jn lets mF mN mNF mNN mS mM mC mW mCst mO m1 m2 mX mG mA mB) (h1 : fn_X11_format p1 p2 cF stp mst prc = some x) (h2 : fn_X12_format p1 p2 mF mC mM mS = some y) : x = y := by
  obtain ⟨⟨f1, f2, f3⟩, hN, hC, hz, hp, hI, hf, hn, hg⟩ := T
  unfold fn_X11_format at h1
  unfold fn_X12_format at h2
  rw [zHasF, zb_some] at h1
  rw [zIsFmt (by rw [f1]; exact f2), zb_some, f1] at h2
  by_cases c : 0 ≤ p1 ∧ p1 < cF
  · rw [if_neg (by rw [zif1]; exact fun q => q c)] at h1 h2
    obtain ⟨q1, q2, q3, q4, q5⟩ := hf p1 c.1 c.2
    by_cases d0 : p2 = 0
    · rw [if_pos d0] at h1 h2
      obtain ⟨-, h1⟩ := zg_s h1
      obtain ⟨-, h2⟩ := zg_s h2
      rw [← Option.some.inj h1, ← Option.some.inj h2]; exact q2
    · rw [if_neg d0] at h1 h2
      by_cases d1 : p2 = 1
      · rw [if_pos d1] at h1 h2
        obtain ⟨-, h1⟩ := zg_s h1
        obtain ⟨-, h2⟩ := zg_s h2
        rw [← Option.some.inj h1, ← Option.some.inj h2]; exact q3
      · rw [if_neg d1] at h1 h2
        by_cases d2 : p2 = 2
        · rw [if_pos d2] at h1 h2
          obtain ⟨-, h1⟩ := zg_s h1
          obtain ⟨-, h2⟩ := zg_s h2
          rw [← Option.some.inj h1, ← Option.some.inj h2]; exact q4
        · rw [if_neg d2] at h1 h2
          rw [← Option.some.inj h1, ← Option.some.inj h2]
  · rw [if_pos (by rw [zif1]; exact c)] at h1 h2
    rw [← Option.some.inj h1, ← Option.some.inj h2]
theorem zGrPl {mG : Nat → Int32} {p1 x : Int32} (hg : 0 ≤ mG p1.toNatClampNeg ∧ mG p1.toNatClampNeg ≤ 14) (h : fn_X12_groupPlace p1 mG = some x) : x = zRk mG (mG p1.toNatClampNeg).toNatClampNeg := by
  unfold fn_X12_groupPlace at h
  refine zcnt_loop (b := fun k => decide (mG k = Int32.ofNat k)) hg (fun c i back o hi ho => ?_) h
  obtain ⟨-, ho⟩ := zg_s ho
  try dsimp only at ho
  by_cases q : mG p1.toNatClampNeg ≤ i
  · rw [if_pos q] at ho
    exact Or.inl ⟨q, (Option.some.inj ho).symm⟩
  · rw [if_neg q] at ho
    obtain ⟨-, ho⟩ := zg_s ho
    by_cases d : mG i.toNatClampNeg = i
    · rw [if_pos d] at ho
      exact Or.inr (Or.inl ⟨by (first | ((try clear h); (try clear ho); grind) | grind), by rw [zofn' i hi]; exact decide_eq_true d, ho⟩)
    · rw [if_neg d] at ho
      exact Or.inr (Or.inr ⟨by (first | ((try clear h); (try clear ho); grind) | grind), by rw [zofn' i hi]; exact fun w => d (of_decide_eq_true w), ho⟩)
theorem zeq_number {cF cc cN inp gc gfr gcl : Int32} {nF nN stp mst prc al made amt op fx jn lets gof gfx gld mF mN mCst mNF mNN mS mM mC mW mO m1 m2 mX mG : Nat → Int32} {mA mB : Nat → Int64} {p1 p2 x y : Int32} (T : zTN cF cc cN inp nF nN stp mst prc al made amt op fx jn lets mF mN mNF mNN mS mM mC mW mCst mO m1 m2 mX mG mA mB) (G : zGp cN gc gfr gcl gof gfx gld fx mG) (h1 : fn_X11_number p1 p2 cN op made gof fx al = some x) (h2 : fn_X12_number_ p1 p2 mN mO m1 m2 mG mX mW = some y) : x = y := by
  obtain ⟨hF, ⟨n1, n2, n3⟩, hC, hz, hp, hI, hf, hn, hg⟩ := T
  unfold fn_X11_number at h1
  unfold fn_X12_number_ at h2
  rw [zHasN, zb_some] at h1
  rw [zIsNum (by rw [n1]; exact n2), zb_some, n1] at h2
  by_cases c : 0 ≤ p1 ∧ p1 < cN
  · rw [if_neg (by rw [zif1]; exact fun q => q c)] at h1 h2
    obtain ⟨q1, q2, q3, q4, q5, q6, q7⟩ := hn p1 c.1 c.2
    by_cases d0 : p2 = 0
    · rw [if_pos d0] at h1 h2
      obtain ⟨-, h1⟩ := zg_s h1
      obtain ⟨-, h2⟩ := zg_s h2
      rw [← Option.some.inj h1, ← Option.some.inj h2]; exact q2
    · rw [if_neg d0] at h1 h2
      by_cases d1 : p2 = 1
      · rw [if_pos d1] at h1 h2
        rw [zMade0 n3 c, zb_some] at h1
        obtain ⟨-, h2⟩ := zg_s h2
        rw [← Option.some.inj h1, ← Option.some.inj h2]; exact q5
      · rw [if_neg d1] at h1 h2
        by_cases d2 : p2 = 2
        · rw [if_pos d2] at h1 h2
          rw [zMade1 n3 c, zb_some] at h1
          obtain ⟨-, h2⟩ := zg_s h2
          rw [← Option.some.inj h1, ← Option.some.inj h2]; exact q6
        · rw [if_neg d2] at h1 h2
          by_cases d3 : p2 = 3
          · rw [if_pos d3] at h1 h2
            obtain ⟨-, h1⟩ := zg_s h1
            obtain ⟨z, hz, h2⟩ := zb_s h2
            have hgi := hg.1 p1 c.1 c.2
            have e := zGrPl ⟨hgi.1, by (first | ((try clear T); (try clear G); (try clear h1); (try clear h2); (try clear hC); (try clear hz); (try clear hI); (try clear hf); (try clear hn); (try clear hg); grind) | grind)⟩ hz
            rw [← Option.some.inj h1, ← Option.some.inj h2, e]
            exact G.1.2.1 p1 c.1 c.2
          · rw [if_neg d3] at h1 h2
            by_cases d4 : p2 = 4
            · rw [if_pos d4] at h1 h2
              obtain ⟨-, h1⟩ := zg_s h1
              obtain ⟨-, h2⟩ := zg_s h2
              rw [← Option.some.inj h1, ← Option.some.inj h2]; exact q3
            · rw [if_neg d4] at h1 h2
              by_cases d5 : p2 = 5
              · rw [if_pos d5] at h1 h2
                obtain ⟨-, h1⟩ := zg_s h1
                obtain ⟨-, h2⟩ := zg_s h2
                rw [← Option.some.inj h1, ← Option.some.inj h2]; exact q4
              · rw [if_neg d5] at h1 h2
                rw [← Option.some.inj h1, ← Option.some.inj h2]
  · rw [if_pos (by rw [zif1]; exact c)] at h1 h2
    rw [← Option.some.inj h1, ← Option.some.inj h2]
theorem zeq_told {cF cc cN inp : Int32} {nF nN stp mst prc al made amt op fx jn lets mF mN mCst mNF mNN mS mM mC mW mO m1 m2 mX mG : Nat → Int32} {mA mB : Nat → Int64} {p1 p2 : Int32} {x y : Int64} (T : zTN cF cc cN inp nF nN stp mst prc al made amt op fx jn lets mF mN mNF mNN mS mM mC mW mCst mO m1 m2 mX mG mA mB) (h1 : fn_X11_told p1 p2 cN made amt = some x) (h2 : fn_X12_told p1 p2 mN mO m2 m1 mB mA = some y) : x = y := by
  obtain ⟨hF, ⟨n1, n2, n3⟩, hC, hz, hp, hI, hf, hn, hg⟩ := T
  unfold fn_X11_told at h1
  unfold fn_X12_told at h2
  rw [zHasN, zb_some] at h1
  rw [zIsNum (by rw [n1]; exact n2), zb_some, n1] at h2
  by_cases c : 0 ≤ p1 ∧ p1 < cN
  · rw [if_neg (by rw [zif1]; exact fun q => q c)] at h1 h2
    obtain ⟨q1, q2, q3, q4, q5, q6, q7, q8, q9, q10, q11, q12, q13, q14, q15, q16, q17⟩ := hn p1 c.1 c.2
    simp only [zIsIn, zb_some, z64_ge0, zj] at h2
    have hin : p2.toInt64 ≤ (1 : Int64) ↔ p2 ≤ 1 := by rw [show (1 : Int64) = (1 : Int32).toInt64 by decide +kernel, z64_le]
    simp only [hin] at h2
    by_cases d : 0 ≤ p2 ∧ p2 ≤ 1
    · rw [if_neg (by rw [zif1]; exact fun q => q d)] at h2
      rw [if_neg (by (first | ((try clear T); (try clear h1); (try clear h2); (try clear hC); (try clear hI); (try clear hf); (try clear hn); (try clear hg); grind) | grind)), if_pos d.2] at h1
      obtain ⟨-, h2⟩ := zg_s h2
      by_cases d0 : p2 = 0
      · subst d0
        rw [zMade0 n3 c, zb_some, zAmt0 n3 c] at h1
        simp only [if_true, zb_some] at h1 h2
        by_cases e0 : made (2 * p1 + 0).toNatClampNeg = (-1)
        · rw [if_pos e0] at h1
          have h2' : y = mA p1.toNatClampNeg := by
            by_cases w : mO p1.toNatClampNeg = 0
            · rw [if_pos w] at h2
              obtain ⟨-, h2⟩ := zg_s h2
              exact (Option.some.inj h2).symm
            · rw [if_neg w, if_pos (q5.symm.trans e0)] at h2
              obtain ⟨-, h2⟩ := zg_s h2
              exact (Option.some.inj h2).symm
          rw [← Option.some.inj h1, h2', q7]
        · rw [if_neg e0] at h1
          have w : ¬ mO p1.toNatClampNeg = 0 := fun w => e0 (q16 (q2.trans w)).1
          rw [if_neg w, if_neg (fun u => e0 (q5.trans u))] at h2
          rw [← Option.some.inj h1, ← Option.some.inj h2]
      · have d1 : p2 = 1 := by (first | ((try clear T); (try clear h1); (try clear h2); (try clear hC); (try clear hI); (try clear hf); (try clear hn); (try clear hg); grind) | grind)
        subst d1
        rw [zMade1 n3 c, zb_some, zAmt1 n3 c] at h1
        simp only [if_neg d0, zb_some] at h1 h2
        by_cases e0 : made (2 * p1 + 1).toNatClampNeg = (-1)
        · rw [if_pos e0] at h1
          have h2' : y = mB p1.toNatClampNeg := by
            by_cases w : mO p1.toNatClampNeg = 0
            · rw [if_pos w] at h2
              obtain ⟨-, h2⟩ := zg_s h2
              exact (Option.some.inj h2).symm
            · rw [if_neg w, if_pos (q6.symm.trans e0)] at h2
              obtain ⟨-, h2⟩ := zg_s h2
              exact (Option.some.inj h2).symm
          rw [← Option.some.inj h1, h2', q8]
        · rw [if_neg e0] at h1
          have w : ¬ mO p1.toNatClampNeg = 0 := fun w => e0 (q16 (q2.trans w)).2.1
          rw [if_neg w, if_neg (fun u => e0 (q6.trans u))] at h2
          rw [← Option.some.inj h1, ← Option.some.inj h2]
    · rw [if_pos (by rw [zif1]; exact d)] at h2
      by_cases e : p2 < 0
      · rw [if_pos e] at h1
        rw [← Option.some.inj h1, ← Option.some.inj h2]
      · rw [if_neg e, if_neg (by (first | ((try clear T); (try clear h1); (try clear h2); (try clear hC); (try clear hI); (try clear hf); (try clear hn); (try clear hg); grind) | grind))] at h1
        rw [← Option.some.inj h1, ← Option.some.inj h2]
  · rw [if_pos (by rw [zif1]; exact c)] at h1 h2
    rw [← Option.some.inj h1, ← Option.some.inj h2]
theorem zDeepOf {p x : Int32} {f : Nat → Int32} (h : fn_X12_deepOf p f = some x) : x = if p = (-1) then 0 else f p.toNatClampNeg := by
  unfold fn_X12_deepOf at h
  by_cases c : p = (-1)
  · rw [if_pos c] at h ⊢
    exact (Option.some.inj h).symm
  · rw [if_neg c] at h ⊢
    obtain ⟨-, h⟩ := zg_s h
    exact (Option.some.inj h).symm
theorem zeq_depth {cF cc cN inp : Int32} {nF nN stp mst prc al made amt op fx jn lets mF mN mCst mNF mNN mS mM mC mW mO m1 m2 mX mG mDp : Nat → Int32} {mA mB : Nat → Int64} {p1 x : Int32} {y : Int32 × (Nat → Int32)} (T : zTN cF cc cN inp nF nN stp mst prc al made amt op fx jn lets mF mN mNF mNN mS mM mC mW mCst mO m1 m2 mX mG mA mB) (h1 : fn_X11_depth p1 cN lets = some x) (h2 : fn_X12_depth p1 mN m1 mDp m2 mO = some y) : x = y.1 := by
  obtain ⟨hF, ⟨n1, n2, n3⟩, hC, hz, hp, hI, hf, hn, hg⟩ := T
  unfold fn_X11_depth at h1
  unfold fn_X12_depth at h2
  rw [zHasN, zb_some] at h1
  rw [zIsNum (by rw [n1]; exact n2), zb_some, n1] at h2
  by_cases c : 0 ≤ p1 ∧ p1 < cN
  · rw [if_neg (by rw [zif1]; exact fun q => q c)] at h1 h2
    obtain ⟨-, h1⟩ := zg_s h1
    rw [← Option.some.inj h1]
    refine zl_ip (P := fun y : Int32 × (Nat → Int32) => lets p1.toNatClampNeg = y.1) (fun s => 0 ≤ s.1 ∧ s.1 ≤ p1 + 1 ∧ ∀ j : Int32, 0 ≤ j → j < s.1 → s.2 j.toNatClampNeg = lets j.toNatClampNeg) ?_ _ _ _ ?_ h2
    rotate_left
    · exact ⟨(show (0 : Int32) ≤ 0 by decide), (show 0 ≤ p1 + 1 by (first | ((try clear T); (try clear h1); (try clear h2); (try clear hC); (try clear hI); (try clear hf); (try clear hn); (try clear hg); grind) | grind)), fun j j1 j2 => absurd j2 (by show ¬ j < 0; (first | ((try clear T); (try clear h1); (try clear h2); (try clear hC); (try clear hI); (try clear hf); (try clear hn); (try clear hg); grind) | grind))⟩
    intro s back o ⟨H1, H2, H3⟩ hb ho
    obtain ⟨k, row⟩ := s
    dsimp only at H1 H2 H3 ho
    by_cases e : p1 < k
    · rw [if_pos e] at ho
      obtain ⟨-, ho⟩ := zg_s ho
      rw [← Option.some.inj ho]
      exact (H3 p1 c.1 e).symm
    · rw [if_neg e] at ho
      obtain ⟨-, ho⟩ := zg_s ho
      obtain ⟨a, ha, ho⟩ := zb_s ho
      obtain ⟨b, hb', ho⟩ := zb_s ho
      have ha := zDeepOf ha
      have hb' := zDeepOf hb'
      obtain ⟨q1, q2, q3, q4, q5, q6, q7, q8, q9, q10, q11, q12, q13, q14, q15, q16, q17⟩ := hn k H1 (by (first | ((try clear T); (try clear h1); (try clear h2); (try clear hC); (try clear hI); (try clear hf); (try clear hn); (try clear hg); (try clear hb); (try clear ho); grind) | grind))
      have ea : a = zLets k made lets 0 := by
        unfold zLets
        rw [ha, ← q5]
        by_cases w : made (2 * k + 0).toNatClampNeg = (-1)
        · rw [if_pos w, if_pos (Or.inl (by rw [w]; decide))]
        · rw [if_neg w, if_neg (by (first | ((try clear T); (try clear h1); (try clear h2); (try clear hC); (try clear hI); (try clear hf); (try clear hn); (try clear hg); (try clear hb); (try clear ho); grind) | grind)), H3 _ (by (first | ((try clear T); (try clear h1); (try clear h2); (try clear hC); (try clear hI); (try clear hf); (try clear hn); (try clear hg); (try clear hb); (try clear ho); grind) | grind)) q12.2]
      have eb : b = zLets k made lets 1 := by
        unfold zLets
        rw [hb', ← q6]
        by_cases w : made (2 * k + 1).toNatClampNeg = (-1)
        · rw [if_pos w, if_pos (Or.inl (by rw [w]; decide))]
        · rw [if_neg w, if_neg (by (first | ((try clear T); (try clear h1); (try clear h2); (try clear hC); (try clear hI); (try clear hf); (try clear hn); (try clear hg); (try clear hb); (try clear ho); grind) | grind)), H3 _ (by (first | ((try clear T); (try clear h1); (try clear h2); (try clear hC); (try clear hI); (try clear hf); (try clear hn); (try clear hg); (try clear hb); (try clear ho); grind) | grind)) q13.2]
      have fin : ∀ v : Int32, v = lets k.toNatClampNeg → back (k + 1, upd row k.toNatClampNeg v) = some o → lets p1.toNatClampNeg = o.1 := by
        intro v hv hbk
        refine hb _ _ ?_ hbk
        refine ⟨(show 0 ≤ k + 1 by (first | ((try clear T); (try clear h1); (try clear h2); (try clear hC); (try clear hI); (try clear hf); (try clear hn); (try clear hg); (try clear hb); (try clear ho); (try clear fin); grind) | grind)), (show k + 1 ≤ p1 + 1 by (first | ((try clear T); (try clear h1); (try clear h2); (try clear hC); (try clear hI); (try clear hf); (try clear hn); (try clear hg); (try clear hb); (try clear ho); (try clear fin); grind) | grind)), fun j j1 j2 => ?_⟩
        have j2 : j < k + 1 := j2
        show upd row k.toNatClampNeg v j.toNatClampNeg = lets j.toNatClampNeg
        rw [zup H1 j1]
        by_cases w : j = k
        · rw [if_pos w, hv, w]
        · rw [if_neg w]; exact H3 j j1 (by (first | ((try clear T); (try clear h1); (try clear h2); (try clear hC); (try clear hI); (try clear hf); (try clear hn); (try clear hg); (try clear hb); (try clear ho); (try clear fin); grind) | grind))
      unfold zDeep at q17
      rw [← ea, ← eb, q2] at q17
      by_cases w : mO k.toNatClampNeg = 0
      · rw [if_pos w] at ho q17
        obtain ⟨-, ho⟩ := zg_s ho
        exact fin 0 q17.symm ho
      · rw [if_neg w] at ho q17
        by_cases v : a ≤ b
        · rw [if_pos v] at ho
          obtain ⟨-, ho⟩ := zg_s ho
          refine fin (b + 1) ?_ ho
          rw [q17, Int32.add_comm]
          by_cases u : a < b
          · rw [if_pos u]
          · rw [if_neg u, show a = b by (first | ((try clear T); (try clear h1); (try clear h2); (try clear hC); (try clear hI); (try clear hf); (try clear hn); (try clear hg); (try clear hb); (try clear ho); (try clear fin); grind) | grind)]
        · rw [if_neg v] at ho
          obtain ⟨-, ho⟩ := zg_s ho
          refine fin (a + 1) ?_ ho
          rw [q17, Int32.add_comm, if_neg (by (first | ((try clear T); (try clear h1); (try clear h2); (try clear hC); (try clear hI); (try clear hf); (try clear hn); (try clear hg); (try clear hb); (try clear ho); (try clear fin); grind) | grind))]
  · rw [if_pos (by rw [zif1]; exact c)] at h1 h2
    rw [← Option.some.inj h1, ← Option.some.inj h2]
/-! has -/
theorem zCnt_c (op : Nat → Int32) : ∀ k : Nat, zCnt op k = zct (fun k => decide (op k = 0)) k := by
  intro k
  induction k with
  | zero => rfl
  | succ k ih =>
    show zCnt op k + (if op k = 0 then 1 else 0) = zct _ k + (if decide (op k = 0) = true then 1 else 0)
    rw [ih]
    by_cases c : op k = 0
    · rw [if_pos c, if_pos (decide_eq_true c)]
    · rw [if_neg c, if_neg (fun q => c (of_decide_eq_true q))]
theorem zIsFree {cN : Int32} {mN mX mG : Nat → Int32} {g x : Int32} (hN : mN 0 = cN ∧ 0 ≤ cN ∧ cN ≤ 14) (h : fn_X12_isFree g mN mG mX = some x) : x = 1 ∧ zFree cN mG mX g ∨ x = 0 ∧ ¬ zFree cN mG mX g := by
  unfold fn_X12_isFree at h
  rw [zn01.1, hN.1] at h
  refine zl_ip (P := fun x => x = 1 ∧ zFree cN mG mX g ∨ x = 0 ∧ ¬ zFree cN mG mX g) (fun s => 0 ≤ s ∧ ∀ o : Int32, 0 ≤ o → o < s → mG o.toNatClampNeg = g → mX o.toNatClampNeg = (-1)) ?_ _ _ _ ?_ h
  rotate_left
  · exact ⟨by decide, fun o o1 o2 => by (first | ((try clear h); grind) | grind)⟩
  intro s back o ⟨H1, H2⟩ hb ho
  have nxt : s < cN → (mG s.toNatClampNeg = g → mX s.toNatClampNeg = (-1)) → back (s + 1) = some o → (o = 1 ∧ zFree cN mG mX g ∨ o = 0 ∧ ¬ zFree cN mG mX g) := by
    intro k1 k2 k3
    refine hb _ _ ?_ k3
    refine ⟨by (first | ((try clear h); (try clear hb); (try clear ho); (try clear nxt); grind) | grind), fun j j1 j2 j3 => ?_⟩
    by_cases q : j = s
    · rw [q] at j3 ⊢; exact k2 j3
    · exact H2 j j1 (by (first | ((try clear h); (try clear hb); (try clear ho); (try clear nxt); grind) | grind)) j3
  by_cases c : cN ≤ s
  · rw [if_pos c] at ho
    exact Or.inl ⟨(Option.some.inj ho).symm, fun j j1 j2 j3 => H2 j j1 (by (first | ((try clear h); (try clear hb); (try clear ho); (try clear nxt); grind) | grind)) j3⟩
  · rw [if_neg c] at ho
    obtain ⟨-, ho⟩ := zg_s ho
    by_cases d : mG s.toNatClampNeg = g
    · rw [if_pos d] at ho
      by_cases e : mX s.toNatClampNeg = (-1)
      · rw [if_pos e] at ho
        exact nxt (by (first | ((try clear h); (try clear hb); (try clear ho); (try clear nxt); grind) | grind)) (fun _ => e) ho
      · rw [if_neg e] at ho
        exact Or.inr ⟨(Option.some.inj ho).symm, fun q => e (q s H1 (by (first | ((try clear h); (try clear hb); (try clear ho); (try clear nxt); grind) | grind)) d)⟩
    · rw [if_neg d] at ho
      exact nxt (by (first | ((try clear h); (try clear hb); (try clear ho); (try clear nxt); grind) | grind)) (fun q => absurd q d) ho
theorem zFree_c {cN g : Int32} {mG fx mX : Nat → Int32} (h : ∀ i : Int32, 0 ≤ i → i < cN → fx i.toNatClampNeg = mX i.toNatClampNeg) : zFree cN mG fx g ↔ zFree cN mG mX g :=
  ⟨fun q o o1 o2 o3 => (h o o1 o2).symm.trans (q o o1 o2 o3), fun q o o1 o2 o3 => (h o o1 o2).trans (q o o1 o2 o3)⟩
noncomputable def zFk (gfx mG : Nat → Int32) : Nat → Int32 := zct (fun k => decide (mG k = Int32.ofNat k ∧ gfx (zRk mG k).toNatClampNeg = (-1)))
theorem zFk_b {gfx mG : Nat → Int32} {k : Int32} (h0 : 0 ≤ k) (h : mG k.toNatClampNeg = k) (h2 : gfx (zRk mG k.toNatClampNeg).toNatClampNeg = (-1)) : decide (mG k.toNatClampNeg = Int32.ofNat k.toNatClampNeg ∧ gfx (zRk mG k.toNatClampNeg).toNatClampNeg = (-1)) = true := by
  rw [zofn' k h0]
  exact decide_eq_true ⟨h, h2⟩
theorem zLaysFree {cF cc cN inp gc gfr gcl : Int32} {nF nN stp mst prc al made amt op fx jn lets gof gfx gld mF mN mCst mNF mNN mS mM mC mW mO m1 m2 mX mG mFr : Nat → Int32} {mA mB : Nat → Int64} {x : Int32 × (Nat → Int32)} (T : zTN cF cc cN inp nF nN stp mst prc al made amt op fx jn lets mF mN mNF mNN mS mM mC mW mCst mO m1 m2 mX mG mA mB) (G : zGp cN gc gfr gcl gof gfx gld fx mG) (h : fn_X12_laysFree mN mG mX mFr = some x) : x.1 = zFk gfx mG cN.toNatClampNeg ∧ (∀ k : Int32, 0 ≤ k → k < cN → mG k.toNatClampNeg = k → gfx (zRk mG k.toNatClampNeg).toNatClampNeg = (-1) → x.2 (zFk gfx mG k.toNatClampNeg).toNatClampNeg = k) := by
  obtain ⟨hF, hN, hC, hz, hp, hI, hf, hn, hg⟩ := T
  have hfr : ∀ k : Int32, 0 ≤ k → k < cN → mG k.toNatClampNeg = k → (gfx (zRk mG k.toNatClampNeg).toNatClampNeg = (-1) ↔ zFree cN mG mX k) := fun k k1 k2 k3 => (zFxS_f (G.1.2.2.1 k k1 k2 k3).2).trans (zFree_c (fun i i1 i2 => (hn i i1 i2).2.2.1))
  unfold fn_X12_laysFree at h
  rw [zn01.1, hN.1] at h
  refine zl_ip (P := fun x : Int32 × (Nat → Int32) => x.1 = zFk gfx mG cN.toNatClampNeg ∧ (∀ k : Int32, 0 ≤ k → k < cN → mG k.toNatClampNeg = k → gfx (zRk mG k.toNatClampNeg).toNatClampNeg = (-1) → x.2 (zFk gfx mG k.toNatClampNeg).toNatClampNeg = k)) (fun s => 0 ≤ s.1 ∧ s.1 ≤ cN ∧ s.2.1 = zFk gfx mG s.1.toNatClampNeg ∧ (∀ k : Int32, 0 ≤ k → k < s.1 → mG k.toNatClampNeg = k → gfx (zRk mG k.toNatClampNeg).toNatClampNeg = (-1) → s.2.2 (zFk gfx mG k.toNatClampNeg).toNatClampNeg = k)) ?_ _ _ _ ?_ h
  rotate_left
  · exact ⟨(show (0 : Int32) ≤ 0 by decide), hN.2.1, by show (0 : Int32) = zct _ (0 : Int32).toNatClampNeg; rw [zn01.1]; rfl, fun k k1 k2 => absurd k2 (by show ¬ k < 0; (first | ((try clear T); (try clear G); (try clear h); (try clear hC); (try clear hI); (try clear hf); (try clear hn); (try clear hg); (try clear hfr); grind) | grind))⟩
  intro s back o ⟨H1, H2, H3, H4⟩ hb ho
  obtain ⟨k, n, row⟩ := s
  dsimp only at H1 H2 H3 H4 ho
  by_cases c : cN ≤ k
  · rw [if_pos c] at ho
    have e : k = cN := by (first | ((try clear T); (try clear G); (try clear h); (try clear hC); (try clear hI); (try clear hf); (try clear hn); (try clear hg); (try clear hfr); (try clear hb); (try clear ho); grind) | grind)
    subst e
    rw [← Option.some.inj ho]
    exact ⟨H3, H4⟩
  · rw [if_neg c] at ho
    obtain ⟨-, ho⟩ := zg_s ho
    have hk : k < cN := by (first | ((try clear T); (try clear G); (try clear h); (try clear hC); (try clear hI); (try clear hf); (try clear hn); (try clear hg); (try clear hfr); (try clear hb); (try clear ho); grind) | grind)
    have skip : ¬ (mG k.toNatClampNeg = k ∧ gfx (zRk mG k.toNatClampNeg).toNatClampNeg = (-1)) → back (k + 1, n, row) = some o → (o.1 = zFk gfx mG cN.toNatClampNeg ∧ (∀ k : Int32, 0 ≤ k → k < cN → mG k.toNatClampNeg = k → gfx (zRk mG k.toNatClampNeg).toNatClampNeg = (-1) → o.2 (zFk gfx mG k.toNatClampNeg).toNatClampNeg = k)) := by
      intro w hbk
      refine hb _ _ ?_ hbk
      refine ⟨(show 0 ≤ k + 1 by (first | ((try clear T); (try clear G); (try clear h); (try clear hC); (try clear hI); (try clear hf); (try clear hn); (try clear hg); (try clear hfr); (try clear hb); (try clear ho); (try clear skip); grind) | grind)), (show k + 1 ≤ cN by (first | ((try clear T); (try clear G); (try clear h); (try clear hC); (try clear hI); (try clear hf); (try clear hn); (try clear hg); (try clear hfr); (try clear hb); (try clear ho); (try clear skip); grind) | grind)), ?_, fun j j1 j2 j3 j4 => ?_⟩
      · show n = zct _ (k + 1).toNatClampNeg
        rw [zct_f H1 (by (first | ((try clear T); (try clear G); (try clear h); (try clear hC); (try clear hI); (try clear hf); (try clear hn); (try clear hg); (try clear hfr); (try clear hb); (try clear ho); (try clear skip); grind) | grind)) (by rw [zofn' k H1]; exact fun q => w (of_decide_eq_true q))]
        exact H3
      · have j2 : j < k + 1 := j2
        by_cases q : j = k
        · rw [q] at j3 j4; exact absurd ⟨j3, j4⟩ w
        · exact H4 j j1 (by (first | ((try clear T); (try clear G); (try clear h); (try clear hC); (try clear hI); (try clear hf); (try clear hn); (try clear hg); (try clear hfr); (try clear hb); (try clear ho); (try clear skip); grind) | grind)) j3 j4
    by_cases d : mG k.toNatClampNeg = k
    · rw [if_pos d] at ho
      obtain ⟨z, hz, ho⟩ := zb_s ho
      rcases zIsFree hN hz with ⟨z1, z2⟩ | ⟨z1, z2⟩
      · rw [if_neg (by rw [z1]; decide)] at ho
        obtain ⟨-, ho⟩ := zg_s ho
        have g1 := (hfr k H1 hk d).mpr z2
        refine hb _ _ ?_ ho
        refine ⟨(show 0 ≤ k + 1 by (first | ((try clear T); (try clear G); (try clear h); (try clear hC); (try clear hz); (try clear hI); (try clear hf); (try clear hn); (try clear hg); (try clear hfr); (try clear hb); (try clear ho); (try clear skip); grind) | grind)), (show k + 1 ≤ cN by (first | ((try clear T); (try clear G); (try clear h); (try clear hC); (try clear hz); (try clear hI); (try clear hf); (try clear hn); (try clear hg); (try clear hfr); (try clear hb); (try clear ho); (try clear skip); grind) | grind)), ?_, fun j j1 j2 j3 j4 => ?_⟩
        · show n + 1 = zct _ (k + 1).toNatClampNeg
          rw [zct_t H1 (by (first | ((try clear T); (try clear G); (try clear h); (try clear hC); (try clear hz); (try clear hI); (try clear hf); (try clear hn); (try clear hg); (try clear hfr); (try clear hb); (try clear ho); (try clear skip); grind) | grind)) (zFk_b H1 d g1), H3]
          rfl
        · have j2 : j < k + 1 := j2
          have nk : 0 ≤ zFk gfx mG k.toNatClampNeg := (zct_b32 H1 (show k ≤ 14 by (first | ((try clear T); (try clear G); (try clear h); (try clear hC); (try clear hz); (try clear hI); (try clear hf); (try clear hn); (try clear hg); (try clear hfr); (try clear hb); (try clear ho); (try clear skip); grind) | grind))).1
          have nj : 0 ≤ zFk gfx mG j.toNatClampNeg := (zct_b32 j1 (show j ≤ 14 by (first | ((try clear T); (try clear G); (try clear h); (try clear hC); (try clear hz); (try clear hI); (try clear hf); (try clear hn); (try clear hg); (try clear hfr); (try clear hb); (try clear ho); (try clear skip); grind) | grind))).1
          show upd row n.toNatClampNeg k (zFk gfx mG j.toNatClampNeg).toNatClampNeg = j
          rw [H3, zup nk nj]
          by_cases q : j = k
          · rw [if_pos (by rw [q]), q]
          · have lt : zFk gfx mG j.toNatClampNeg < zFk gfx mG k.toNatClampNeg := zct_lt j1 (show j < k by (first | ((try clear T); (try clear G); (try clear h); (try clear hC); (try clear hz); (try clear hI); (try clear hf); (try clear hn); (try clear hg); (try clear hfr); (try clear hb); (try clear ho); (try clear skip); grind) | grind)) (by (first | ((try clear T); (try clear G); (try clear h); (try clear hC); (try clear hz); (try clear hI); (try clear hf); (try clear hn); (try clear hg); (try clear hfr); (try clear hb); (try clear ho); (try clear skip); grind) | grind)) (zFk_b j1 j3 j4)
            rw [if_neg (fun w => by rw [w] at lt; exact absurd lt (by (first | ((try clear T); (try clear G); (try clear h); (try clear hC); (try clear hz); (try clear hI); (try clear hf); (try clear hn); (try clear hg); (try clear hfr); (try clear hb); (try clear ho); (try clear skip); grind) | grind)))]
            exact H4 j j1 (by (first | ((try clear T); (try clear G); (try clear h); (try clear hC); (try clear hz); (try clear hI); (try clear hf); (try clear hn); (try clear hg); (try clear hfr); (try clear hb); (try clear ho); (try clear skip); grind) | grind)) j3 j4
      · rw [if_pos z1] at ho
        exact skip (fun q => z2 ((hfr k H1 hk d).mp q.2)) ho
    · rw [if_neg d] at ho
      exact skip (fun q => d q.1) ho
theorem zInputs {mN mO : Nat → Int32} {x : Int32} (hN : 0 ≤ mN 0 ∧ mN 0 ≤ 14) (h : fn_X12_inputs mN mO = some x) : x = zct (fun k => decide (mO k = 0)) (mN 0).toNatClampNeg := by
  unfold fn_X12_inputs at h
  rw [zn01.1] at h
  refine zcnt_loop hN (fun c i back o hi ho => ?_) h
  try dsimp only at ho
  by_cases q : mN 0 ≤ i
  · rw [if_pos q] at ho
    exact Or.inl ⟨q, (Option.some.inj ho).symm⟩
  · rw [if_neg q] at ho
    obtain ⟨-, ho⟩ := zg_s ho
    by_cases d : mO i.toNatClampNeg = 0
    · rw [if_pos d] at ho
      exact Or.inr (Or.inl ⟨by (first | ((try clear h); (try clear ho); grind) | grind), decide_eq_true d, ho⟩)
    · rw [if_neg d] at ho
      exact Or.inr (Or.inr ⟨by (first | ((try clear h); (try clear ho); grind) | grind), fun w => d (of_decide_eq_true w), ho⟩)
theorem zAnswers {mN mW : Nat → Int32} {x : Int32} (hN : 0 ≤ mN 0 ∧ mN 0 ≤ 14) (h : fn_X12_answers mN mW = some x) : x = zct (fun k => decide (¬ mW k = (-1))) (mN 0).toNatClampNeg := by
  unfold fn_X12_answers at h
  rw [zn01.1] at h
  refine zcnt_loop hN (fun c i back o hi ho => ?_) h
  try dsimp only at ho
  by_cases q : mN 0 ≤ i
  · rw [if_pos q] at ho
    exact Or.inl ⟨q, (Option.some.inj ho).symm⟩
  · rw [if_neg q] at ho
    obtain ⟨-, ho⟩ := zg_s ho
    by_cases d : mW i.toNatClampNeg = (-1)
    · rw [if_pos d] at ho
      exact Or.inr (Or.inr ⟨by (first | ((try clear h); (try clear ho); grind) | grind), fun w => (of_decide_eq_true w) d, ho⟩)
    · rw [if_neg d] at ho
      exact Or.inr (Or.inl ⟨by (first | ((try clear h); (try clear ho); grind) | grind), decide_eq_true d, ho⟩)
theorem zGroupsM {mN mG : Nat → Int32} {x : Int32} (hN : 0 ≤ mN 0 ∧ mN 0 ≤ 14) (h : fn_X12_groups mN mG = some x) : x = zRk mG (mN 0).toNatClampNeg := by
  unfold fn_X12_groups at h
  rw [zn01.1] at h
  refine zcnt_loop (b := fun k => decide (mG k = Int32.ofNat k)) hN (fun c i back o hi ho => ?_) h
  try dsimp only at ho
  by_cases q : mN 0 ≤ i
  · rw [if_pos q] at ho
    exact Or.inl ⟨q, (Option.some.inj ho).symm⟩
  · rw [if_neg q] at ho
    obtain ⟨-, ho⟩ := zg_s ho
    by_cases d : mG i.toNatClampNeg = i
    · rw [if_pos d] at ho
      exact Or.inr (Or.inl ⟨by (first | ((try clear h); (try clear ho); grind) | grind), by rw [zofn' i hi]; exact decide_eq_true d, ho⟩)
    · rw [if_neg d] at ho
      exact Or.inr (Or.inr ⟨by (first | ((try clear h); (try clear ho); grind) | grind), by rw [zofn' i hi]; exact fun w => d (of_decide_eq_true w), ho⟩)
theorem zCountA {n p x : Int32} {al : Nat → Int32} (hp : 0 ≤ p ∧ p ≤ n ∧ n ≤ 14) (h : fn_X4_countAnswers p n al = some x) : x = zct (fun k => decide (¬ al k = (-1))) p.toNatClampNeg := by
  unfold fn_X4_countAnswers at h
  refine zcnt_loop ⟨hp.1, by (first | ((try clear h); grind) | grind)⟩ (fun c i back o hi ho => ?_) h
  try dsimp only at ho
  by_cases q : p ≤ i
  · rw [if_pos q] at ho
    exact Or.inl ⟨q, (Option.some.inj ho).symm⟩
  · rw [if_neg q, if_neg (by (first | ((try clear h); (try clear ho); grind) | grind))] at ho
    obtain ⟨-, ho⟩ := zg_s ho
    by_cases d : al i.toNatClampNeg = (-1)
    · rw [if_pos d] at ho
      exact Or.inr (Or.inr ⟨by (first | ((try clear h); (try clear ho); grind) | grind), fun w => (of_decide_eq_true w) d, ho⟩)
    · rw [if_neg d] at ho
      exact Or.inr (Or.inl ⟨by (first | ((try clear h); (try clear ho); grind) | grind), decide_eq_true d, ho⟩)
theorem zeq_has {cF cc cN inp gc gfr gcl mSd sd : Int32} {nF nN stp mst prc al made amt op fx jn lets gof gfx gld mF mN mCst mNF mNN mS mM mC mW mO m1 m2 mX mG mFr : Nat → Int32} {mA mB : Nat → Int64} {p1 x : Int32} {y : Int32 × Int32 × (Nat → Int32)} (T : zTN cF cc cN inp nF nN stp mst prc al made amt op fx jn lets mF mN mNF mNN mS mM mC mW mCst mO m1 m2 mX mG mA mB) (G : zGp cN gc gfr gcl gof gfx gld fx mG) (hs : sd = mSd) (h1 : fn_X11_has p1 sd cF cc cN inp al gc gfr = some x) (h2 : fn_X12_has p1 mSd mN mG mX mFr mF mO mW mCst = some y) : x = y.1 := by
  have T0 := T
  obtain ⟨hF, ⟨n1, n2, n3⟩, hC, hz, hp, hI, hf, hn, hg⟩ := T
  have hN0 : 0 ≤ mN 0 ∧ mN 0 ≤ 14 := by rw [n1]; exact ⟨n2, n3⟩
  unfold fn_X11_has at h1
  unfold fn_X12_has at h2
  obtain ⟨w, hw, h2⟩ := zb_s h2
  rw [zn01.1] at h2
  by_cases d0 : p1 = 0
  · rw [if_pos d0] at h1 h2
    rw [← Option.some.inj h1, ← Option.some.inj h2]; exact n1.symm
  · rw [if_neg d0] at h1 h2
    by_cases d1 : p1 = 1
    · rw [if_pos d1] at h1 h2
      rw [← Option.some.inj h1, ← Option.some.inj h2]; exact hF.1.symm
    · rw [if_neg d1] at h1 h2
      by_cases d2 : p1 = 2
      · rw [if_pos d2] at h1 h2
        obtain ⟨z, hz2, h2⟩ := zb_s h2
        have e := zInputs hN0 hz2
        rw [← Option.some.inj h1, ← Option.some.inj h2, hI, zCnt_c]
        show _ = z
        rw [e, n1]
        refine zct_c _ (fun j hj => ?_)
        obtain ⟨j1, j2, j3⟩ := zof n2 hj
        have := (hn _ j1 j2).2.1
        rw [j3] at this
        rw [this]
      · rw [if_neg d2] at h1 h2
        by_cases d3 : p1 = 3
        · rw [if_pos d3] at h1 h2
          obtain ⟨z, hz2, h2⟩ := zb_s h2
          obtain ⟨z', hz1, h1⟩ := zb_s h1
          have e := zAnswers hN0 hz2
          have e' := zCountA ⟨n2, by (first | ((try clear T); (try clear G); (try clear h1); (try clear h2); (try clear hC); (try clear hI); (try clear hf); (try clear hn); (try clear hg); (try clear hw); (try clear hz2); (try clear hj); (try clear hz1); grind) | grind), n3⟩ hz1
          rw [← Option.some.inj h1, ← Option.some.inj h2]
          show z' = z
          rw [e, e', n1]
          refine zct_c _ (fun j hj => ?_)
          obtain ⟨j1, j2, j3⟩ := zof n2 hj
          have := (hn _ j1 j2).2.2.2.1
          rw [j3] at this
          rw [this]
        · rw [if_neg d3] at h1 h2
          by_cases d4 : p1 = 4
          · rw [if_pos d4] at h1 h2
            obtain ⟨z, hz2, h2⟩ := zb_s h2
            have e := zGroupsM hN0 hz2
            rw [← Option.some.inj h1, ← Option.some.inj h2]
            show gc = z
            rw [e, n1]; exact G.1.1
          · rw [if_neg d4] at h1 h2
            by_cases d5 : p1 = 5
            · rw [if_pos d5] at h1 h2
              have e := (zLaysFree T0 G hw).1
              rw [← Option.some.inj h1, ← Option.some.inj h2]
              show gfr = w.1
              rw [e, G.2, G.1.1]
              have l14 : cN.toNatClampNeg ≤ 14 := by have := zcle n2 n3; rw [show (14 : Int32).toNatClampNeg = 14 by decide +kernel] at this; exact this
              exact zFreeC gfx mG cN.toNatClampNeg l14
            · rw [if_neg d5] at h1 h2
              by_cases d6 : p1 = 6
              · rw [if_pos d6] at h1 h2
                by_cases e : mN 0 = 0
                · rw [if_pos e] at h2
                  rw [← Option.some.inj h1, ← Option.some.inj h2]; exact hz (n1.symm.trans e)
                · rw [if_neg e] at h2
                  rw [← Option.some.inj h1, ← Option.some.inj h2]; exact hC.1.symm
              · rw [if_neg d6] at h1 h2
                by_cases d7 : p1 = 7
                · rw [if_pos d7] at h1 h2
                  rw [← Option.some.inj h1, ← Option.some.inj h2]; exact hs
                · rw [if_neg d7] at h1 h2
                  rw [← Option.some.inj h1, ← Option.some.inj h2]
/-! letters of a NAME; what is made from a NUMBER -/
theorem zq {n d q r : Int} (hd : 0 < d) (h : n = q * d + r) (h0 : 0 ≤ r) (h1 : r < d) : n / d = q := by
  rw [h, Int.add_comm, Int.add_mul_ediv_right _ _ (by omega), Int.ediv_eq_zero_of_lt h0 h1, Int.zero_add]
theorem zshr {c s : Int32} (j : Nat) (D : Int) (hD : ((2 ^ j : Nat) : Int) = D) (hs : (c >>> s).toBitVec = c.toBitVec.sshiftRight j) (h : 0 ≤ c.toInt) : ((c >>> s) &&& 31).toInt = (c.toInt / D) % 32 := by
  rw [← hD]
  have hm : c.toBitVec.msb = false := by
    rw [BitVec.msb_eq_toInt]
    exact decide_eq_false (by show ¬ c.toInt < 0; omega)
  have e : ((c >>> s) &&& 31).toBitVec.toNat = (c.toBitVec.toNat / 2 ^ j) % 32 := by
    rw [Int32.toBitVec_and, BitVec.toNat_and, hs, BitVec.sshiftRight_eq_of_msb_false hm, BitVec.toNat_ushiftRight, Nat.shiftRight_eq_div_pow, show (31 : Int32).toBitVec.toNat = 2 ^ 5 - 1 by decide +kernel]
    exact Nat.and_two_pow_sub_one_eq_mod _ 5
  have hl := Nat.mod_lt (c.toBitVec.toNat / 2 ^ j) (show 0 < 32 by decide)
  rw [ztoI e (by omega), ← zposN h, Int.natCast_emod, Int.natCast_ediv]
  rfl
theorem zNm_let {c m k : Int32} (h : zNm c m) (h0 : 0 ≤ k) (h1 : k < 6) : (c >>> ((5 * (5 - k)) &&& 31)) &&& 31 = (m >>> ((5 * k) &&& 31)) &&& 31 := by
  obtain ⟨l, hl, hc, hm⟩ := h
  have b0 := hl 0
  have b1 := hl 1
  have b2 := hl 2
  have b3 := hl 3
  have b4 := hl 4
  have b5 := hl 5
  unfold zCV at hc
  unfold zMV at hm
  have hc0 : 0 ≤ c.toInt := by omega
  have hm0 : 0 ≤ m.toInt := by omega
  have hk : k = 0 ∨ k = 1 ∨ k = 2 ∨ k = 3 ∨ k = 4 ∨ k = 5 := by (first | ((try clear h); grind) | grind)
  apply Int32.toInt_inj.mp
  rcases hk with rfl | rfl | rfl | rfl | rfl | rfl
  · rw [show (5 * (5 - 0) &&& 31 : Int32) = 25 by decide +kernel, show (5 * 0 &&& 31 : Int32) = 0 by decide +kernel, zshr 25 33554432 (by decide) rfl hc0, zshr 0 1 (by decide) rfl hm0, zq (q := l 0 * 1) (r := l 1 * 1048576 + l 2 * 32768 + l 3 * 1024 + l 4 * 32 + l 5 * 1) (by decide) (by rw [hc]; omega) (by omega) (by omega), zq (q := l 0 * 1 + l 1 * 32 + l 2 * 1024 + l 3 * 32768 + l 4 * 1048576 + l 5 * 33554432) (r := 0) (by decide) (by rw [hm]; omega) (by omega) (by omega)]
    omega
  · rw [show (5 * (5 - 1) &&& 31 : Int32) = 20 by decide +kernel, show (5 * 1 &&& 31 : Int32) = 5 by decide +kernel, zshr 20 1048576 (by decide) rfl hc0, zshr 5 32 (by decide) rfl hm0, zq (q := l 0 * 32 + l 1 * 1) (r := l 2 * 32768 + l 3 * 1024 + l 4 * 32 + l 5 * 1) (by decide) (by rw [hc]; omega) (by omega) (by omega), zq (q := l 1 * 1 + l 2 * 32 + l 3 * 1024 + l 4 * 32768 + l 5 * 1048576) (r := l 0 * 1) (by decide) (by rw [hm]; omega) (by omega) (by omega)]
    omega
  · rw [show (5 * (5 - 2) &&& 31 : Int32) = 15 by decide +kernel, show (5 * 2 &&& 31 : Int32) = 10 by decide +kernel, zshr 15 32768 (by decide) rfl hc0, zshr 10 1024 (by decide) rfl hm0, zq (q := l 0 * 1024 + l 1 * 32 + l 2 * 1) (r := l 3 * 1024 + l 4 * 32 + l 5 * 1) (by decide) (by rw [hc]; omega) (by omega) (by omega), zq (q := l 2 * 1 + l 3 * 32 + l 4 * 1024 + l 5 * 32768) (r := l 0 * 1 + l 1 * 32) (by decide) (by rw [hm]; omega) (by omega) (by omega)]
    omega
  · rw [show (5 * (5 - 3) &&& 31 : Int32) = 10 by decide +kernel, show (5 * 3 &&& 31 : Int32) = 15 by decide +kernel, zshr 10 1024 (by decide) rfl hc0, zshr 15 32768 (by decide) rfl hm0, zq (q := l 0 * 32768 + l 1 * 1024 + l 2 * 32 + l 3 * 1) (r := l 4 * 32 + l 5 * 1) (by decide) (by rw [hc]; omega) (by omega) (by omega), zq (q := l 3 * 1 + l 4 * 32 + l 5 * 1024) (r := l 0 * 1 + l 1 * 32 + l 2 * 1024) (by decide) (by rw [hm]; omega) (by omega) (by omega)]
    omega
  · rw [show (5 * (5 - 4) &&& 31 : Int32) = 5 by decide +kernel, show (5 * 4 &&& 31 : Int32) = 20 by decide +kernel, zshr 5 32 (by decide) rfl hc0, zshr 20 1048576 (by decide) rfl hm0, zq (q := l 0 * 1048576 + l 1 * 32768 + l 2 * 1024 + l 3 * 32 + l 4 * 1) (r := l 5 * 1) (by decide) (by rw [hc]; omega) (by omega) (by omega), zq (q := l 4 * 1 + l 5 * 32) (r := l 0 * 1 + l 1 * 32 + l 2 * 1024 + l 3 * 32768) (by decide) (by rw [hm]; omega) (by omega) (by omega)]
    omega
  · rw [show (5 * (5 - 5) &&& 31 : Int32) = 0 by decide +kernel, show (5 * 5 &&& 31 : Int32) = 25 by decide +kernel, zshr 0 1 (by decide) rfl hc0, zshr 25 33554432 (by decide) rfl hm0, zq (q := l 0 * 33554432 + l 1 * 1048576 + l 2 * 32768 + l 3 * 1024 + l 4 * 32 + l 5 * 1) (r := 0) (by decide) (by rw [hc]; omega) (by omega) (by omega), zq (q := l 5 * 1) (r := l 0 * 1 + l 1 * 32 + l 2 * 1024 + l 3 * 32768 + l 4 * 1048576) (by decide) (by rw [hm]; omega) (by omega) (by omega)]
    omega
theorem zeq_letter {cF cc cN inp : Int32} {nF nN stp mst prc al made amt op fx jn lets mF mN mCst mNF mNN mS mM mC mW mO m1 m2 mX mG : Nat → Int32} {mA mB : Nat → Int64} {p1 p2 p3 x y : Int32} (T : zTN cF cc cN inp nF nN stp mst prc al made amt op fx jn lets mF mN mNF mNN mS mM mC mW mCst mO m1 m2 mX mG mA mB) (h1 : fn_X11_letter p1 p2 p3 cF cN nN nF = some x) (h2 : fn_X12_letter p1 p2 p3 mN mF mNN mNF = some y) : x = y := by
  obtain ⟨⟨f1, f2, f3⟩, ⟨n1, n2, n3⟩, hC, hz, hp, hI, hf, hn, hg⟩ := T
  unfold fn_X11_letter at h1
  unfold fn_X12_letter at h2
  have hin : p3.toInt64 ≤ (5 : Int64) ↔ p3 ≤ 5 := by rw [show (5 : Int64) = (5 : Int32).toInt64 by decide +kernel, z64_le]
  simp only [zj, zHasN, zHasF, zb_some, fn_X11_letterOf] at h1
  simp only [zj, zIsNum (show 0 ≤ mN 0 by rw [n1]; exact n2), zIsFmt (show 0 ≤ mF 0 by rw [f1]; exact f2), zb_some, zIsIn, z64_ge0, hin, n1, f1] at h2
  by_cases c : p2 = 0
  · simp only [if_pos c] at h1 h2
    by_cases d : 0 ≤ p1 ∧ p1 < cN
    · rw [if_neg (by rw [zif1]; exact fun q => q d)] at h1 h2
      by_cases e : 0 ≤ p3 ∧ p3 ≤ 5
      · rw [if_neg (by rw [zif1]; exact fun q => q e)] at h2
        rw [if_neg (by (first | ((try clear T); (try clear h1); (try clear h2); (try clear hC); (try clear hI); (try clear hf); (try clear hn); (try clear hg); grind) | grind)), if_pos (by (first | ((try clear T); (try clear h1); (try clear h2); (try clear hC); (try clear hI); (try clear hf); (try clear hn); (try clear hg); grind) | grind))] at h1
        obtain ⟨-, h1⟩ := zg_s h1
        obtain ⟨-, h2⟩ := zg_s h2
        rw [← Option.some.inj h1, ← Option.some.inj h2]
        exact zNm_let (hn p1 d.1 d.2).1 e.1 (by (first | ((try clear T); (try clear h1); (try clear h2); (try clear hC); (try clear hI); (try clear hf); (try clear hn); (try clear hg); grind) | grind))
      · rw [if_pos (by rw [zif1]; exact e)] at h2
        have h1' : x = (-1) := by
          by_cases w : p3 < 0
          · rw [if_pos w] at h1; exact (Option.some.inj h1).symm
          · rw [if_neg w, if_neg (by (first | ((try clear T); (try clear h1); (try clear h2); (try clear hC); (try clear hI); (try clear hf); (try clear hn); (try clear hg); grind) | grind))] at h1; exact (Option.some.inj h1).symm
        rw [h1', ← Option.some.inj h2]
    · rw [if_pos (by rw [zif1]; exact d)] at h1 h2
      rw [← Option.some.inj h1, ← Option.some.inj h2]
  · simp only [if_neg c] at h1 h2
    by_cases d : 0 ≤ p1 ∧ p1 < cF
    · rw [if_neg (by rw [zif1]; exact fun q => q d)] at h1 h2
      by_cases e : 0 ≤ p3 ∧ p3 ≤ 5
      · rw [if_neg (by rw [zif1]; exact fun q => q e)] at h2
        rw [if_neg (by (first | ((try clear T); (try clear h1); (try clear h2); (try clear hC); (try clear hI); (try clear hf); (try clear hn); (try clear hg); grind) | grind)), if_pos (by (first | ((try clear T); (try clear h1); (try clear h2); (try clear hC); (try clear hI); (try clear hf); (try clear hn); (try clear hg); grind) | grind))] at h1
        obtain ⟨-, h1⟩ := zg_s h1
        obtain ⟨-, h2⟩ := zg_s h2
        rw [← Option.some.inj h1, ← Option.some.inj h2]
        exact zNm_let (hf p1 d.1 d.2).1 e.1 (by (first | ((try clear T); (try clear h1); (try clear h2); (try clear hC); (try clear hI); (try clear hf); (try clear hn); (try clear hg); grind) | grind))
      · rw [if_pos (by rw [zif1]; exact e)] at h2
        have h1' : x = (-1) := by
          by_cases w : p3 < 0
          · rw [if_pos w] at h1; exact (Option.some.inj h1).symm
          · rw [if_neg w, if_neg (by (first | ((try clear T); (try clear h1); (try clear h2); (try clear hC); (try clear hI); (try clear hf); (try clear hn); (try clear hg); grind) | grind))] at h1; exact (Option.some.inj h1).symm
        rw [h1', ← Option.some.inj h2]
    · rw [if_pos (by rw [zif1]; exact d)] at h1 h2
      rw [← Option.some.inj h1, ← Option.some.inj h2]
/-! sets of NUMBERS as bits -/
noncomputable def zbt (x : Int32) (k : Nat) : Bool := x.toBitVec.getLsbD k
theorem zp14 {p : Int32} (h : 0 ≤ p ∧ p < 14) : ((p &&& 31).toBitVec.smod 32).toNat = p.toNatClampNeg ∧ (1 <<< (p &&& 31) : Int32).toBitVec = BitVec.twoPow 32 p.toNatClampNeg ∧ p.toNatClampNeg < 32 := by
  have hk : p = 0 ∨ p = 1 ∨ p = 2 ∨ p = 3 ∨ p = 4 ∨ p = 5 ∨ p = 6 ∨ p = 7 ∨ p = 8 ∨ p = 9 ∨ p = 10 ∨ p = 11 ∨ p = 12 ∨ p = 13 := by grind
  rcases hk with rfl | rfl | rfl | rfl | rfl | rfl | rfl | rfl | rfl | rfl | rfl | rfl | rfl | rfl <;> decide +kernel
theorem zbt_sh (x p : Int32) : (x >>> (p &&& 31)).toBitVec = x.toBitVec.sshiftRight ((p &&& 31).toBitVec.smod 32).toNat := rfl
theorem zbt_and {x p : Int32} (h : 0 ≤ p ∧ p < 14) : ((x >>> (p &&& 31)) &&& 1 = 1) ↔ zbt x p.toNatClampNeg = true := by
  obtain ⟨e1, e2, e3⟩ := zp14 h
  have e4 : ((x >>> (p &&& 31)) &&& 1).toBitVec = x.toBitVec.sshiftRight p.toNatClampNeg &&& 1#32 := by
    rw [Int32.toBitVec_and, zbt_sh, e1]
    rfl
  have e5 : ∀ i : Nat, (x.toBitVec.sshiftRight p.toNatClampNeg &&& 1#32).getLsbD i = (decide (i = 0) && zbt x p.toNatClampNeg) := by
    intro i
    rw [BitVec.getLsbD_and, BitVec.getLsbD_sshiftRight, BitVec.getLsbD_one]
    by_cases q : i = 0
    · subst q
      simp [zbt, e3]
    · simp [q]
  constructor
  · intro q
    have q1 : (x.toBitVec.sshiftRight p.toNatClampNeg &&& 1#32) = 1#32 := by rw [← e4, q]; rfl
    have q2 := e5 0
    rw [q1] at q2
    simpa using q2.symm
  · intro q
    apply Int32.toBitVec_inj.mp
    rw [e4]
    show _ = 1#32
    apply BitVec.eq_of_getLsbD_eq
    intro i hi
    rw [e5 i, q, BitVec.getLsbD_one]
    simp
theorem zbt_or {x p : Int32} (h : 0 ≤ p ∧ p < 14) (k : Nat) : zbt (x ||| (1 <<< (p &&& 31))) k = (zbt x k || decide (p.toNatClampNeg = k)) := by
  obtain ⟨e1, e2, e3⟩ := zp14 h
  show (x ||| (1 <<< (p &&& 31))).toBitVec.getLsbD k = _
  rw [Int32.toBitVec_or, e2, BitVec.getLsbD_or, BitVec.getLsbD_twoPow]
  simp [zbt, e3]
theorem zbt_fin {x p : Int32} (h : 0 ≤ p ∧ p < 14) (h0 : zbt x p.toNatClampNeg = false) : (x ||| (1 <<< (p &&& 31))) &&& ((1 <<< (p &&& 31)) ^^^ (-1)) = x := by
  obtain ⟨e1, e2, e3⟩ := zp14 h
  apply Int32.toBitVec_inj.mp
  rw [Int32.toBitVec_and, Int32.toBitVec_or, Int32.toBitVec_xor, e2, show (-1 : Int32).toBitVec = BitVec.allOnes 32 by decide +kernel]
  apply BitVec.eq_of_getLsbD_eq
  intro i hi
  rw [BitVec.getLsbD_and, BitVec.getLsbD_or, BitVec.getLsbD_xor, BitVec.getLsbD_twoPow, BitVec.getLsbD_allOnes]
  by_cases q : p.toNatClampNeg = i
  · subst q
    have h0 : x.toBitVec.getLsbD p.toNatClampNeg = false := h0
    rw [h0]
    simp [hi]
  · simp [q, hi]
theorem zAmong {p b a : Int32} (ha : (-1) ≤ a ∧ a < 14) : fn_X4_isAmong p b a = some (if a = p ∨ 0 ≤ a ∧ zbt b a.toNatClampNeg = true then 1 else 0) := by
  unfold fn_X4_isAmong
  by_cases c : a = p
  · rw [if_pos c, if_pos (Or.inl c)]
  · rw [if_neg c]
    by_cases d : a < 0
    · rw [if_pos d, if_neg (by rintro (q | ⟨q, _⟩); exact c q; grind)]
    · rw [if_neg d]
      have hb := zbt_and (x := b) (p := a) ⟨by (first | ((try clear hb); grind) | grind), ha.2⟩
      by_cases e : ((b >>> (a &&& 31)) &&& 1) = 1
      · rw [if_pos e, if_pos (Or.inr ⟨by (first | ((try clear hb); grind) | grind), hb.mp e⟩)]
      · rw [if_neg e, if_neg (by rintro (q | ⟨_, q⟩); exact c q; exact e (hb.mpr q))]
theorem zeq_uses {cF cc cN inp : Int32} {nF nN stp mst prc al made amt op fx jn lets mF mN mCst mNF mNN mS mM mC mW mO m1 m2 mX mG : Nat → Int32} {mA mB : Nat → Int64} {p1 x y : Int32} (T : zTN cF cc cN inp nF nN stp mst prc al made amt op fx jn lets mF mN mNF mNN mS mM mC mW mCst mO m1 m2 mX mG mA mB) (h1 : fn_X11_uses p1 cN made = some x) (h2 : fn_X12_uses p1 mN m1 m2 = some y) : x = y := by
  obtain ⟨hF, ⟨n1, n2, n3⟩, hC, hz, hp, hI, hf, hn, hg⟩ := T
  unfold fn_X11_uses at h1
  unfold fn_X12_uses at h2
  rw [zHasN, zb_some] at h1
  rw [zIsNum (by rw [n1]; exact n2), zb_some, n1] at h2
  by_cases c : 0 ≤ p1 ∧ p1 < cN
  · rw [if_neg (by rw [zif1]; exact fun q => q c)] at h1 h2
    have hp14 : 0 ≤ p1 ∧ p1 < 14 := ⟨c.1, by (first | ((try clear T); (try clear h1); (try clear h2); (try clear hC); (try clear hI); (try clear hf); (try clear hn); (try clear hg); grind) | grind)⟩
    obtain ⟨w, hw, h1⟩ := zb_s h1
    rw [← Option.some.inj h1]
    unfold fn_X4_madeFrom at hw
    rw [zn01.1, n1] at h2
    refine zl_ip2 (P := fun w y => w = y) (fun s t => t.2 = s.2 ∧ p1 < s.2 ∧ s.2 ≤ 14 ∧ t.1 = s.1 ||| (1 <<< (p1 &&& 31)) ∧ zbt s.1 p1.toNatClampNeg = false) ?_ _ _ _ _ _ _ ?_ hw h2
    rotate_left
    · exact ⟨rfl, (show p1 < p1 + 1 by (first | ((try clear T); (try clear h1); (try clear h2); (try clear hC); (try clear hI); (try clear hf); (try clear hn); (try clear hg); (try clear hw); grind) | grind)), (show p1 + 1 ≤ 14 by (first | ((try clear T); (try clear h1); (try clear h2); (try clear hC); (try clear hI); (try clear hf); (try clear hn); (try clear hg); (try clear hw); grind) | grind)), (show (1 <<< (p1 &&& 31) : Int32) = (0 : Int32) ||| (1 <<< (p1 &&& 31)) from Int32.zero_or.symm), (show zbt 0 p1.toNatClampNeg = false by unfold zbt; simp)⟩
    intro s t k1 k2 o1 o2 ⟨R1, R2, R3, R4, R5⟩ hb ho1 ho2
    obtain ⟨bits, k⟩ := s
    obtain ⟨set, k'⟩ := t
    dsimp only at R1 R2 R3 R4 R5 ho1 ho2
    subst R1
    by_cases d : cN ≤ k'
    · rw [if_pos d] at ho1 ho2
      rw [← Option.some.inj ho1, ← Option.some.inj ho2, R4]
      exact (zbt_fin hp14 R5).symm
    · rw [if_neg d] at ho1 ho2
      have hk : 0 ≤ k' ∧ k' < cN := ⟨by (first | ((try clear T); (try clear h1); (try clear h2); (try clear hC); (try clear hI); (try clear hf); (try clear hn); (try clear hg); (try clear hw); (try clear hb); (try clear ho1); (try clear ho2); grind) | grind), by (first | ((try clear T); (try clear h1); (try clear h2); (try clear hC); (try clear hI); (try clear hf); (try clear hn); (try clear hg); (try clear hw); (try clear hb); (try clear ho1); (try clear ho2); grind) | grind)⟩
      have hk14 : 0 ≤ k' ∧ k' < 14 := ⟨hk.1, by (first | ((try clear T); (try clear h1); (try clear h2); (try clear hC); (try clear hI); (try clear hf); (try clear hn); (try clear hg); (try clear hw); (try clear hb); (try clear ho1); (try clear ho2); grind) | grind)⟩
      obtain ⟨q1, q2, q3, q4, q5, q6, q7, q8, q9, q10, q11, q12, q13, q14⟩ := hn k' hk.1 hk.2
      obtain ⟨-, ho2⟩ := zg_s ho2
      simp only [zj] at ho2
      rw [zMade0 n3 hk, zb_some, zAmong ⟨q12.1, by (first | ((try clear T); (try clear h1); (try clear h2); (try clear hC); (try clear hI); (try clear hf); (try clear hn); (try clear hg); (try clear hw); (try clear hb); (try clear ho1); (try clear ho2); grind) | grind)⟩, zb_some, zMade1 n3 hk, zb_some, zAmong ⟨q13.1, by (first | ((try clear T); (try clear h1); (try clear h2); (try clear hC); (try clear hI); (try clear hf); (try clear hn); (try clear hg); (try clear hw); (try clear hb); (try clear ho1); (try clear ho2); grind) | grind)⟩, zb_some] at ho1
      have bit : ∀ a : Int32, (-1) ≤ a → a < k' → ¬ a = (-1) → (((set >>> (a &&& 31)) &&& 1 = 1) ↔ (a = p1 ∨ 0 ≤ a ∧ zbt bits a.toNatClampNeg = true)) := by
        intro a a1 a2 a3
        have a4 : 0 ≤ a ∧ a < 14 := ⟨by (first | ((try clear T); (try clear h1); (try clear h2); (try clear hC); (try clear hI); (try clear hf); (try clear hn); (try clear hg); (try clear hw); (try clear hb); (try clear ho1); (try clear ho2); (try clear bit); grind) | grind), by (first | ((try clear T); (try clear h1); (try clear h2); (try clear hC); (try clear hI); (try clear hf); (try clear hn); (try clear hg); (try clear hw); (try clear hb); (try clear ho1); (try clear ho2); (try clear bit); grind) | grind)⟩
        rw [zbt_and a4, R4, zbt_or hp14]
        constructor
        · intro q
          simp only [Bool.or_eq_true, decide_eq_true_eq] at q
          rcases q with q | q
          · exact Or.inr ⟨a4.1, q⟩
          · exact Or.inl (zinj _ _ hp14.1 a4.1 q).symm
        · intro q
          simp only [Bool.or_eq_true, decide_eq_true_eq]
          rcases q with q | ⟨_, q⟩
          · exact Or.inr (by rw [q])
          · exact Or.inl q
      have yes : k1 (bits ||| (1 <<< (k' &&& 31)), k' + 1) = some o1 → k2 (set ||| (1 <<< (k' &&& 31)), k' + 1) = some o2 → o1 = o2 := by
        intro w1 w2
        refine hb _ _ _ _ ?_ w1 w2
        refine ⟨rfl, (show p1 < k' + 1 by (first | ((try clear T); (try clear h1); (try clear h2); (try clear hC); (try clear hI); (try clear hf); (try clear hn); (try clear hg); (try clear hw); (try clear hb); (try clear ho1); (try clear ho2); (try clear bit); (try clear yes); grind) | grind)), (show k' + 1 ≤ 14 by (first | ((try clear T); (try clear h1); (try clear h2); (try clear hC); (try clear hI); (try clear hf); (try clear hn); (try clear hg); (try clear hw); (try clear hb); (try clear ho1); (try clear ho2); (try clear bit); (try clear yes); grind) | grind)), ?_, ?_⟩
        · show set ||| (1 <<< (k' &&& 31)) = bits ||| (1 <<< (k' &&& 31)) ||| (1 <<< (p1 &&& 31))
          rw [R4, Int32.or_assoc, Int32.or_assoc, Int32.or_comm (1 <<< (p1 &&& 31))]
        · show zbt (bits ||| (1 <<< (k' &&& 31))) p1.toNatClampNeg = false
          rw [zbt_or hk14, R5]
          have : ¬ k'.toNatClampNeg = p1.toNatClampNeg := fun q => by have := zinj _ _ hk.1 c.1 q; (first | ((try clear T); (try clear h1); (try clear h2); (try clear hC); (try clear hI); (try clear hf); (try clear hn); (try clear hg); (try clear hw); (try clear hb); (try clear ho1); (try clear ho2); (try clear bit); (try clear yes); grind) | grind)
          simp [this]
      have no : k1 (bits, k' + 1) = some o1 → k2 (set ||| 0, k' + 1) = some o2 → o1 = o2 := by
        intro w1 w2
        rw [Int32.or_zero] at w2
        refine hb _ _ _ _ ?_ w1 w2
        exact ⟨rfl, (show p1 < k' + 1 by (first | ((try clear T); (try clear h1); (try clear h2); (try clear hC); (try clear hI); (try clear hf); (try clear hn); (try clear hg); (try clear hw); (try clear hb); (try clear ho1); (try clear ho2); (try clear bit); (try clear yes); (try clear no); grind) | grind)), (show k' + 1 ≤ 14 by (first | ((try clear T); (try clear h1); (try clear h2); (try clear hC); (try clear hI); (try clear hf); (try clear hn); (try clear hg); (try clear hw); (try clear hb); (try clear ho1); (try clear ho2); (try clear bit); (try clear yes); (try clear no); grind) | grind)), R4, R5⟩
      rw [← q5, ← q6] at ho2
      have h10 : ¬ (1 : Int32) = 0 := by decide
      have hneg : (-1 : Int32) = p1 → False := fun q => by (first | ((try clear T); (try clear h1); (try clear h2); (try clear hC); (try clear hI); (try clear hf); (try clear hn); (try clear hg); (try clear hw); (try clear hb); (try clear ho1); (try clear ho2); (try clear bit); (try clear yes); (try clear no); grind) | grind)
      -- the second WHAT, once the first is none
      have snd : (if (if made (2 * k' + 1).toNatClampNeg = p1 ∨ 0 ≤ made (2 * k' + 1).toNatClampNeg ∧ zbt bits (made (2 * k' + 1).toNatClampNeg).toNatClampNeg = true then (1 : Int32) else 0) = 0 then k1 (bits, k' + 1) else k1 (bits ||| (1 <<< (k' &&& 31)), k' + 1)) = some o1 → (zg k' 28 (if made (2 * k' + 1).toNatClampNeg = (-1) then (if (0 : Int32) = 0 then k2 (set ||| 0, k' + 1) else k2 (set ||| (1 <<< (k' &&& 31)), k' + 1)) else (if ((set >>> (made (2 * k' + 1).toNatClampNeg &&& 31)) &&& 1) = 1 then (if (1 : Int32) = 0 then k2 (set ||| 0, k' + 1) else k2 (set ||| (1 <<< (k' &&& 31)), k' + 1)) else (if (0 : Int32) = 0 then k2 (set ||| 0, k' + 1) else k2 (set ||| (1 <<< (k' &&& 31)), k' + 1))))) = some o2 → o1 = o2 := by
        intro w1 w2
        obtain ⟨-, w2⟩ := zg_s w2
        rw [if_neg h10, if_pos rfl] at w2
        by_cases e : made (2 * k' + 1).toNatClampNeg = (-1)
        · rw [if_pos e] at w2
          rw [if_pos (by rw [zif1, e]; rintro (q | ⟨q, _⟩); exact hneg q; exact absurd q (by decide))] at w1
          exact no w1 w2
        · rw [if_neg e] at w2
          have hbit := bit _ q13.1 q13.2 e
          by_cases u : made (2 * k' + 1).toNatClampNeg = p1 ∨ 0 ≤ made (2 * k' + 1).toNatClampNeg ∧ zbt bits (made (2 * k' + 1).toNatClampNeg).toNatClampNeg = true
          · rw [if_pos (hbit.mpr u)] at w2
            rw [if_neg (by rw [zif1]; exact fun q => q u)] at w1
            exact yes w1 w2
          · rw [if_neg (fun q => u (hbit.mp q))] at w2
            rw [if_pos (by rw [zif1]; exact u)] at w1
            exact no w1 w2
      by_cases e : made (2 * k' + 0).toNatClampNeg = (-1)
      · rw [if_pos e] at ho2
        rw [if_pos (by rw [zif1, e]; rintro (q | ⟨q, _⟩); exact hneg q; exact absurd q (by decide))] at ho1
        exact snd ho1 ho2
      · rw [if_neg e] at ho2
        have hbit := bit _ q12.1 q12.2 e
        by_cases u : made (2 * k' + 0).toNatClampNeg = p1 ∨ 0 ≤ made (2 * k' + 0).toNatClampNeg ∧ zbt bits (made (2 * k' + 0).toNatClampNeg).toNatClampNeg = true
        · rw [if_pos (hbit.mpr u), if_neg h10] at ho2
          rw [if_neg (by rw [zif1]; exact fun q => q u)] at ho1
          exact yes ho1 ho2
        · rw [if_neg (fun q => u (hbit.mp q))] at ho2
          rw [if_pos (by rw [zif1]; exact u)] at ho1
          exact snd ho1 ho2
  · rw [if_pos (by rw [zif1]; exact c)] at h1 h2
    rw [← Option.some.inj h1, ← Option.some.inj h2]
/-! numbers of 64 bits: least, greatest, amount, products by 1000 -/
noncomputable def zLs (a b : Int64) : Int64 := if b < a then b else a
noncomputable def zMx (a b : Int64) : Int64 := if b < a then a else b
noncomputable def zAb (a : Int64) : Int64 := if 0 < a then a else -a
theorem zLes (a b : Int64) : fn_X12_lesser a b = some (zLs a b) := by
  unfold fn_X12_lesser zLs
  by_cases c : b ≤ a
  · rw [if_pos ((lg_cmp_ge a b).mpr c)]
    by_cases d : b < a
    · rw [if_pos d]
    · rw [if_neg d, show b = a by grind]
  · rw [if_neg (fun q => c ((lg_cmp_ge a b).mp q)), if_neg (by grind)]
theorem zGre (a b : Int64) : fn_X12_greater a b = some (zMx a b) := by
  unfold fn_X12_greater zMx
  by_cases c : a ≤ b
  · rw [if_pos ((lg_cmp_le a b).mpr c), if_neg (by grind)]
  · rw [if_neg (fun q => c ((lg_cmp_le a b).mp q)), if_pos (by grind)]
theorem zAmo (a : Int64) : fn_X12_amount a = some (zAb a) := by
  unfold fn_X12_amount zAb
  by_cases c : 0 ≤ a
  · rw [if_pos ((lg_cmp_ge a 0).mpr c)]
    by_cases d : 0 < a
    · rw [if_pos d]
    · rw [if_neg d, show a = 0 by grind]
      rfl
  · rw [if_neg (fun q => c ((lg_cmp_ge a 0).mp q)), if_neg (by grind)]
theorem zMx_comm (a b : Int64) : zMx a b = zMx b a := by
  unfold zMx
  grind
noncomputable def zFd (x y : Int64) : Int64 := if x - x / y * y = 0 then x / y else if 0 ≤ x then x / y else x / y - 1
theorem zxor {x y : Int64} (hy : 0 ≤ y) : 0 ≤ x ^^^ y ↔ 0 ≤ x := by
  have z0 : (0 : Int64).toInt = 0 := by decide +kernel
  have key : ∀ v : Int64, 0 ≤ v ↔ v.toBitVec.msb = false := by
    intro v
    rw [Int64.le_iff_toInt_le, z0, BitVec.msb_eq_toInt]
    show 0 ≤ v.toBitVec.toInt ↔ _
    constructor
    · intro q; exact decide_eq_false (by omega)
    · intro q; have := of_decide_eq_false q; omega
  rw [key, key x, Int64.toBitVec_xor, BitVec.msb_xor, (key y).mp hy]
  simp
theorem zFdM {x y : Int64} (hy : ¬ y = 0) : fn_X12_floor x y = some (zFd x y) := by
  unfold fn_X12_floor zd zFd
  rw [if_neg hy, if_neg hy]
  by_cases c : x - x / y * y = 0
  · rw [if_pos ((lg_cmp_eq _ _).mpr c), if_pos c]
  · rw [if_neg (fun q => c ((lg_cmp_eq _ _).mp q)), if_neg c]
    by_cases d : 0 ≤ x
    · rw [if_pos ((lg_cmp_ge _ _).mpr d), if_pos d]
    · rw [if_neg (fun q => d ((lg_cmp_ge _ _).mp q)), if_neg d]
theorem zFdJ {x y : Int64} (hy : 1 ≤ y) : fn_J9_floorDiv_f86c9 x y = some (zFd x y) := by
  unfold fn_J9_floorDiv_f86c9 zd zFd
  rw [if_neg (show ¬ y = 0 by grind)]
  have hx := zxor (x := x) (y := y) (by (first | ((try clear hx); grind) | grind))
  have e : (x / y * y = x) ↔ (x - x / y * y = 0) := by
    generalize x / y * y = z
    constructor
    · intro q; rw [q]; exact Int64.sub_self x
    · intro q; (first | ((try clear hx); grind) | grind)
  by_cases d : 0 ≤ x
  · rw [if_pos ((lg_cmp_ge _ _).mpr (hx.mpr d)), if_pos d]
    by_cases c : x - x / y * y = 0
    · rw [if_pos c]
    · rw [if_neg c]
  · rw [if_neg (fun q => d (hx.mp ((lg_cmp_ge _ _).mp q))), if_neg d]
    by_cases c : x - x / y * y = 0
    · rw [if_pos ((lg_cmp_eq _ _).mpr (e.mpr c)), if_pos c]
    · rw [if_neg (fun q => c (e.mp ((lg_cmp_eq _ _).mp q))), if_neg c]
noncomputable def zPr (a b s : Int64) : Int64 := zFd (2 * a * b + 1000 * s) (2000 * s) * s
noncomputable def zRd' (a s : Int64) : Int64 := zFd (2 * a + s) (2 * s) * s
theorem zst {s : Int64} (h : 1 ≤ s ∧ s ≤ 1000000) : 1 ≤ 1000 * s ∧ 1 ≤ 2000 * s ∧ 1 ≤ 2 * s := by
  refine ⟨?_, ?_, ?_⟩ <;> grind
theorem zPrM {a b s : Int64} (h : 1 ≤ s ∧ s ≤ 1000000) : fn_X12_roundedProduct a b s = some (zPr a b s) := by
  unfold fn_X12_roundedProduct
  have := (zst h).2.1
  rw [zFdM (show ¬ 2000 * s = 0 by grind), zb_some]
  rfl
theorem zNeJ {a d s : Int64} (h1 : 1 ≤ d * s) (h2 : 1 ≤ 2 * (d * s)) : fn_X11_nearest a d s = some (zFd (2 * a + d * s) (2 * (d * s)) * s) := by
  unfold fn_X11_nearest
  rw [if_pos ((lg_cmp_ge _ _).mpr h1), zFdJ h2, zb_some]
theorem zPrJ {a b s : Int64} (h : 1 ≤ s ∧ s ≤ 1000000) : fn_X11_nearest (a * b) 1000 s = some (zPr a b s) := by
  have e : 2 * (1000 * s) = 2000 * s := by rw [← Int64.mul_assoc]; rfl
  obtain ⟨h1, h2, -⟩ := zst h
  rw [zNeJ h1 (by rw [e]; exact h2), e, ← Int64.mul_assoc]
  rfl
noncomputable def zAp (p : Int32) (a b s : Int64) : Int64 := if p = 1 then a + b else if p = 2 then a - b else if p = 3 then zPr a b s else if p = 4 then zLs a b else zMx a b
theorem zApJ {p : Int32} {a b s : Int64} (hp : 1 ≤ p ∧ p ≤ 5) (h : 1 ≤ s ∧ s ≤ 1000000) : fn_X11_apply p a b s = some (zAp p a b s) := by
  unfold fn_X11_apply zAp
  rw [zPrJ h, zb_some]
  by_cases c1 : p = 1
  · rw [if_pos c1, if_pos c1]
  · rw [if_neg c1, if_neg c1]
    by_cases c2 : p = 2
    · rw [if_pos c2, if_pos c2]
    · rw [if_neg c2, if_neg c2]
      by_cases c3 : p = 3
      · rw [if_pos c3, if_pos c3]
      · rw [if_neg c3, if_neg c3]
        by_cases c4 : p = 4
        · rw [if_pos c4, if_pos c4]; rfl
        · rw [if_neg c4, if_neg c4, if_pos (by grind)]; rfl
theorem zApM {p : Int32} {a b s : Int64} (h : 1 ≤ s ∧ s ≤ 1000000) : fn_X12_two p a b s = some (zAp p a b s) := by
  unfold fn_X12_two zAp
  rw [zPrM h, zLes, zGre, zb_some, zb_some, zb_some]
  by_cases c1 : p = 1
  · rw [if_pos c1, if_pos c1]
  · rw [if_neg c1, if_neg c1]
    by_cases c2 : p = 2
    · rw [if_pos c2, if_pos c2]
    · rw [if_neg c2, if_neg c2]
      by_cases c3 : p = 3
      · rw [if_pos c3, if_pos c3]
      · rw [if_neg c3, if_neg c3]
        by_cases c4 : p = 4
        · rw [if_pos c4, if_pos c4]
        · rw [if_neg c4, if_neg c4]
theorem zone64 : (1 : Int64) ≤ 1 ∧ (1 : Int64) ≤ 1000000 := by decide
/-! both ends of a NUMBER, by those of its WHATS -/
noncomputable def zVal (m a : Int32) (row : Nat → Int64) : Int64 := if m = (-1) then a.toInt64 else row m.toNatClampNeg
noncomputable def zLoV (p : Int32) (a b c d : Int64) : Int64 := if p = 2 then a - d else if p = 3 then zLs (zLs (zPr a c 1) (zPr a d 1)) (zLs (zPr b c 1) (zPr b d 1)) else zAp p a c 1
noncomputable def zHiV (p : Int32) (a b c d : Int64) : Int64 := if p = 2 then b - c else if p = 3 then zMx (zMx (zPr a c 1) (zPr a d 1)) (zMx (zPr b c 1) (zPr b d 1)) else zAp p b d 1
noncomputable def zLw (i : Int32) (op made amt : Nat → Int32) (lo hi : Nat → Int64) : Int64 := if op i.toNatClampNeg = 0 then (amt (2 * i + 0).toNatClampNeg).toInt64 else zLoV (op i.toNatClampNeg) (zVal (made (2 * i + 0).toNatClampNeg) (amt (2 * i + 0).toNatClampNeg) lo) (zVal (made (2 * i + 0).toNatClampNeg) (amt (2 * i + 0).toNatClampNeg) hi) (zVal (made (2 * i + 1).toNatClampNeg) (amt (2 * i + 1).toNatClampNeg) lo) (zVal (made (2 * i + 1).toNatClampNeg) (amt (2 * i + 1).toNatClampNeg) hi)
noncomputable def zHg (i : Int32) (op made amt : Nat → Int32) (lo hi : Nat → Int64) : Int64 := if op i.toNatClampNeg = 0 then (amt (2 * i + 1).toNatClampNeg).toInt64 else zHiV (op i.toNatClampNeg) (zVal (made (2 * i + 0).toNatClampNeg) (amt (2 * i + 0).toNatClampNeg) lo) (zVal (made (2 * i + 0).toNatClampNeg) (amt (2 * i + 0).toNatClampNeg) hi) (zVal (made (2 * i + 1).toNatClampNeg) (amt (2 * i + 1).toNatClampNeg) lo) (zVal (made (2 * i + 1).toNatClampNeg) (amt (2 * i + 1).toNatClampNeg) hi)
/-- what the class needs to know of one NUMBER -/
noncomputable def zOk (i : Int32) (op made : Nat → Int32) : Prop := (0 ≤ op i.toNatClampNeg ∧ op i.toNatClampNeg ≤ 5) ∧ ((-1) ≤ made (2 * i + 0).toNatClampNeg ∧ made (2 * i + 0).toNatClampNeg < i) ∧ ((-1) ≤ made (2 * i + 1).toNatClampNeg ∧ made (2 * i + 1).toNatClampNeg < i) ∧ (op i.toNatClampNeg = 0 → made (2 * i + 0).toNatClampNeg = (-1) ∧ made (2 * i + 1).toNatClampNeg = (-1))
theorem zOk_of {i cF : Int32} {nN op fx al made amt lets mNN mO m1 m2 mX mW : Nat → Int32} {mA mB : Nat → Int64} (h : zN01 i cF nN op fx al made amt lets mNN mO m1 m2 mX mW mA mB) : zOk i op made := by
  obtain ⟨q1, q2, q3, q4, q5, q6, q7, q8, q9, q10, q11, q12, q13, q14, q15, q16, q17⟩ := h
  exact ⟨q9, q12, q13, fun w => ⟨(q16 w).1, (q16 w).2.1⟩⟩
theorem zLowJ0 {i cN : Int32} {made amt : Nat → Int32} {lo : Nat → Int64} (hN : cN ≤ 14) (hi : 0 ≤ i ∧ i < cN) (hm : (-1) ≤ made (2 * i + 0).toNatClampNeg ∧ made (2 * i + 0).toNatClampNeg < i) : fn_X6_lowOf i 0 cN made amt lo = some (zVal (made (2 * i + 0).toNatClampNeg) (amt (2 * i + 0).toNatClampNeg) lo) := by
  unfold fn_X6_lowOf zVal
  rw [zMade0 hN hi, zb_some, zAmt0 hN hi, zb_some]
  by_cases c : made (2 * i + 0).toNatClampNeg = (-1)
  · rw [if_pos (by rw [c]; decide), if_pos c]
  · rw [if_neg (by grind), if_neg (by grind), if_neg c, zg_in 14 (by decide +kernel) ⟨by grind, by grind⟩]
theorem zLowJ1 {i cN : Int32} {made amt : Nat → Int32} {lo : Nat → Int64} (hN : cN ≤ 14) (hi : 0 ≤ i ∧ i < cN) (hm : (-1) ≤ made (2 * i + 1).toNatClampNeg ∧ made (2 * i + 1).toNatClampNeg < i) : fn_X6_lowOf i 1 cN made amt lo = some (zVal (made (2 * i + 1).toNatClampNeg) (amt (2 * i + 1).toNatClampNeg) lo) := by
  unfold fn_X6_lowOf zVal
  rw [zMade1 hN hi, zb_some, zAmt1 hN hi, zb_some]
  by_cases c : made (2 * i + 1).toNatClampNeg = (-1)
  · rw [if_pos (by rw [c]; decide), if_pos c]
  · rw [if_neg (by grind), if_neg (by grind), if_neg c, zg_in 14 (by decide +kernel) ⟨by grind, by grind⟩]
theorem zHighJ {p2 p3 v1_0 : Int32} {f2 f3 : Nat → Int32} {f4 : Nat → Int64} : fn_X6_highOf p2 p3 v1_0 f2 f3 f4 = fn_X6_lowOf p2 p3 v1_0 f2 f3 f4 := rfl
theorem zEndJ {i cN g : Int32} {a : Int64} {made amt : Nat → Int32} {lo hi : Nat → Int64} (hN : cN ≤ 14) (hi' : 0 ≤ i ∧ i < cN) (hm : (-1) ≤ made (2 * i + 1).toNatClampNeg ∧ made (2 * i + 1).toNatClampNeg < i) : fn_X6_endProduct i a g cN made amt lo hi = some (if g = 0 then zLs (zPr a (zVal (made (2 * i + 1).toNatClampNeg) (amt (2 * i + 1).toNatClampNeg) lo) 1) (zPr a (zVal (made (2 * i + 1).toNatClampNeg) (amt (2 * i + 1).toNatClampNeg) hi) 1) else zMx (zPr a (zVal (made (2 * i + 1).toNatClampNeg) (amt (2 * i + 1).toNatClampNeg) lo) 1) (zPr a (zVal (made (2 * i + 1).toNatClampNeg) (amt (2 * i + 1).toNatClampNeg) hi) 1)) := by
  have e : ∀ x : Int64, fn_X11_apply 3 a x 1 = some (zPr a x 1) := fun x => by rw [zApJ (by decide) zone64]; rfl
  unfold fn_X6_endProduct
  simp only [zHighJ, zLowJ1 hN hi' hm, zb_some, e]
  by_cases c : g = 0
  · rw [if_pos c, if_pos c]; rfl
  · rw [if_neg c, if_neg c]; rfl
theorem zLwJ {i cN : Int32} {op made amt : Nat → Int32} {lo hi : Nat → Int64} (hN : cN ≤ 14) (hi' : 0 ≤ i ∧ i < cN) (hk : zOk i op made) : fn_X6_lowest i cN op made amt lo hi = some (zLw i op made amt lo hi) := by
  obtain ⟨k1, k2, k3, k4⟩ := hk
  unfold fn_X6_lowest zLw zLoV
  rw [zg_in 14 (by decide +kernel) ⟨hi'.1, by (first | ((try clear hk); grind) | grind)⟩]
  simp only [zHighJ, zLowJ0 hN hi' k2, zLowJ1 hN hi' k3, zEndJ hN hi' k3, zb_some, if_true]
  by_cases c0 : op i.toNatClampNeg = 0
  · rw [if_pos c0, if_pos c0]
    unfold zVal
    rw [if_pos (k4 c0).1]
  · rw [if_neg c0, if_neg c0]
    have h1 : 1 ≤ op i.toNatClampNeg ∧ op i.toNatClampNeg ≤ 5 := ⟨by (first | ((try clear hk); grind) | grind), k1.2⟩
    simp only [zApJ h1 zone64, zb_some]
    by_cases c3 : op i.toNatClampNeg = 3
    · rw [if_pos c3, if_neg (show ¬ op i.toNatClampNeg = 2 by rw [c3]; decide), if_pos c3]; rfl
    · rw [if_neg c3]
      by_cases c2 : op i.toNatClampNeg = 2
      · rw [if_pos c2, if_pos c2]
        unfold zAp
        rw [if_neg (show ¬ op i.toNatClampNeg = 1 by rw [c2]; decide), if_pos c2]
      · rw [if_neg c2, if_neg c2, if_neg c3]
theorem zHgJ {i cN : Int32} {op made amt : Nat → Int32} {lo hi : Nat → Int64} (hN : cN ≤ 14) (hi' : 0 ≤ i ∧ i < cN) (hk : zOk i op made) : fn_X6_highest i cN op made amt hi lo = some (zHg i op made amt lo hi) := by
  obtain ⟨k1, k2, k3, k4⟩ := hk
  have h10 : ¬ (1 : Int32) = 0 := by decide
  unfold fn_X6_highest zHg zHiV
  rw [zg_in 14 (by decide +kernel) ⟨hi'.1, by (first | ((try clear hk); grind) | grind)⟩]
  simp only [zHighJ, zLowJ0 hN hi' k2, zLowJ1 hN hi' k3, zEndJ hN hi' k3, zb_some, if_neg h10]
  by_cases c0 : op i.toNatClampNeg = 0
  · rw [if_pos c0, if_pos c0]
    unfold zVal
    rw [if_pos (k4 c0).2]
  · rw [if_neg c0, if_neg c0]
    have h1 : 1 ≤ op i.toNatClampNeg ∧ op i.toNatClampNeg ≤ 5 := ⟨by (first | ((try clear hk); grind) | grind), k1.2⟩
    simp only [zApJ h1 zone64, zb_some]
    by_cases c3 : op i.toNatClampNeg = 3
    · rw [if_pos c3, if_neg (show ¬ op i.toNatClampNeg = 2 by rw [c3]; decide), if_pos c3]
      exact congrArg some (zMx_comm _ _)
    · rw [if_neg c3]
      by_cases c2 : op i.toNatClampNeg = 2
      · rw [if_pos c2, if_pos c2]
        unfold zAp
        rw [if_neg (show ¬ op i.toNatClampNeg = 1 by rw [c2]; decide), if_pos c2]
      · rw [if_neg c2, if_neg c2, if_neg c3]
/-! the reference's -/
theorem zLowM {k s : Int32} {m1 m2 : Nat → Int32} {lo mA mB : Nat → Int64} {x : Int64} (h : fn_X12_lowOf k s m1 m2 lo mA mB = some x) : x = if s = 0 then (if m1 k.toNatClampNeg = (-1) then mA k.toNatClampNeg else lo (m1 k.toNatClampNeg).toNatClampNeg) else (if m2 k.toNatClampNeg = (-1) then mB k.toNatClampNeg else lo (m2 k.toNatClampNeg).toNatClampNeg) := by
  unfold fn_X12_lowOf at h
  simp only [zj] at h
  by_cases c : s = 0
  · rw [if_pos c] at h ⊢
    obtain ⟨-, h⟩ := zg_s h
    by_cases d : m1 k.toNatClampNeg = (-1)
    · rw [if_pos d, if_pos c] at h
      rw [if_pos d]
      obtain ⟨-, h⟩ := zg_s h
      exact (Option.some.inj h).symm
    · rw [if_neg d] at h ⊢
      obtain ⟨-, h⟩ := zg_s h
      exact (Option.some.inj h).symm
  · rw [if_neg c] at h ⊢
    obtain ⟨-, h⟩ := zg_s h
    by_cases d : m2 k.toNatClampNeg = (-1)
    · rw [if_pos d, if_neg c] at h
      rw [if_pos d]
      obtain ⟨-, h⟩ := zg_s h
      exact (Option.some.inj h).symm
    · rw [if_neg d] at h ⊢
      obtain ⟨-, h⟩ := zg_s h
      exact (Option.some.inj h).symm
theorem zHighM {k s : Int32} {m1 m2 : Nat → Int32} {lo mA mB : Nat → Int64} : fn_X12_highOf k s m1 m2 lo mA mB = fn_X12_lowOf k s m1 m2 lo mA mB := rfl
theorem zLaysR {k wn cF : Int32} {wb : Int64} {nN op fx al made amt lets mNN mO m1 m2 mX mW : Nat → Int32} {mA mB lo hi : Nat → Int64} {x : (Nat → Int64) × (Nat → Int64)} (hk : zN01 k cF nN op fx al made amt lets mNN mO m1 m2 mX mW mA mB) (h : fn_X12_laysRange k wn wb mO m1 m2 lo mA mB hi = some x) : x = (vp_updL lo k.toNatClampNeg (zLw k op made amt lo hi - (if k = wn ∧ op k.toNatClampNeg = 0 then wb else 0)), vp_updL hi k.toNatClampNeg (zHg k op made amt lo hi + (if k = wn ∧ op k.toNatClampNeg = 0 then wb else 0))) := by
  obtain ⟨q1, q2, q3, q4, q5, q6, q7, q8, q9, q10, q11, q12, q13, q14, q15, q16, q17⟩ := hk
  have e0 : ∀ row : Nat → Int64, (if m1 k.toNatClampNeg = (-1) then mA k.toNatClampNeg else row (m1 k.toNatClampNeg).toNatClampNeg) = zVal (made (2 * k + 0).toNatClampNeg) (amt (2 * k + 0).toNatClampNeg) row := fun row => by rw [← q5, q7]; rfl
  have e1 : ∀ row : Nat → Int64, (if m2 k.toNatClampNeg = (-1) then mB k.toNatClampNeg else row (m2 k.toNatClampNeg).toNatClampNeg) = zVal (made (2 * k + 1).toNatClampNeg) (amt (2 * k + 1).toNatClampNeg) row := fun row => by rw [← q6, q8]; rfl
  have h10 : ¬ (1 : Int32) = 0 := by decide
  unfold fn_X12_laysRange at h
  obtain ⟨-, h⟩ := zg_s h
  simp only [zj, zHighM] at h
  unfold zLw zHg zLoV zHiV
  rw [q2]
  by_cases c0 : mO k.toNatClampNeg = 0
  · rw [if_pos c0] at h
    by_cases d : k = wn
    · rw [if_pos d] at h
      obtain ⟨-, h⟩ := zg_s h
      obtain ⟨-, h⟩ := zg_s h
      rw [← Option.some.inj h, if_pos c0, if_pos c0, if_pos (show k = wn ∧ mO k.toNatClampNeg = 0 from ⟨d, c0⟩), q7, q8]
    · rw [if_neg d] at h
      obtain ⟨-, h⟩ := zg_s h
      obtain ⟨-, h⟩ := zg_s h
      rw [← Option.some.inj h, if_pos c0, if_pos c0, if_neg (show ¬ (k = wn ∧ mO k.toNatClampNeg = 0) from fun q => d q.1), q7, q8]
  · rw [if_neg c0] at h
    rw [if_neg c0, if_neg c0, if_neg (show ¬ (k = wn ∧ mO k.toNatClampNeg = 0) from fun q => c0 q.2), Int64.sub_zero, Int64.add_zero]
    obtain ⟨a, ha, h⟩ := zb_s h
    obtain ⟨b, hb, h⟩ := zb_s h
    obtain ⟨c, hc, h⟩ := zb_s h
    obtain ⟨d, hd, h⟩ := zb_s h
    have ha := zLowM ha
    have hb := zLowM hb
    have hc := zLowM hc
    have hd := zLowM hd
    rw [if_pos rfl, e0] at ha hb
    rw [if_neg h10, e1] at hc hd
    rw [← ha, ← hb, ← hc, ← hd]
    by_cases c2 : mO k.toNatClampNeg = 2
    · rw [if_pos c2] at h
      obtain ⟨-, h⟩ := zg_s h
      rw [← Option.some.inj h, if_pos c2, if_pos c2]
    · rw [if_neg c2] at h
      rw [if_neg c2, if_neg c2]
      simp only [zApM zone64, zLes, zGre, zb_some] at h
      by_cases c3 : mO k.toNatClampNeg = 3
      · rw [if_pos c3] at h
        obtain ⟨-, h⟩ := zg_s h
        rw [← Option.some.inj h, if_pos c3, if_pos c3]
        rfl
      · rw [if_neg c3] at h
        obtain ⟨-, h⟩ := zg_s h
        rw [← Option.some.inj h, if_neg c3, if_neg c3]
/-! RANGES: the class lays them once, held; the reference each time, as far as they are not great -/
noncomputable def zHd (x : Int64) : Int64 := if (if x < 2000000000 then x else 2000000000) < -2000000000 then -2000000000 else (if x < 2000000000 then x else 2000000000)
theorem zHeld (x : Int64) : fn_X6_held x = some (zHd x) := rfl
theorem zAmtOf {i : Int32} {f g : Nat → Int64} (hi : 0 ≤ i ∧ i < 14) : fn_X6_amountOf i f g = some (zMx (zAb (f i.toNatClampNeg)) (zAb (g i.toNatClampNeg))) := by
  unfold fn_X6_amountOf
  rw [zg_in 14 (by decide +kernel) hi]
  rfl
theorem zMostM {i : Int32} {f g : Nat → Int64} {x : Int64} (h : fn_X12_mostOf i f g = some x) : x = zMx (zAb (f i.toNatClampNeg)) (zAb (g i.toNatClampNeg)) := by
  unfold fn_X12_mostOf at h
  obtain ⟨-, h⟩ := zg_s h
  simp only [zAmo, zGre, zb_some] at h
  exact (Option.some.inj h).symm
theorem zMx_gt (a b c : Int64) : c < zMx a b ↔ c < a ∨ c < b := by
  unfold zMx
  grind
noncomputable def zWd (w : Nat → Int32) (m : Int32) : Prop := ¬ m = (-1) ∧ ¬ w m.toNatClampNeg = 0
theorem zIsWide {m : Int32} {w : Nat → Int32} (hm : (-1) ≤ m ∧ m < 14) {x : Int32} (h : fn_X6_isWide m w = some x) : x = 0 ∧ ¬ zWd w m ∨ x = 1 ∧ zWd w m := by
  unfold fn_X6_isWide at h
  by_cases c : m < 0
  · rw [if_pos c] at h
    exact Or.inl ⟨(Option.some.inj h).symm, fun q => q.1 (by (first | ((try clear h); grind) | grind))⟩
  · rw [if_neg c, if_neg (by (first | ((try clear h); grind) | grind))] at h
    obtain ⟨-, h⟩ := zg_s h
    by_cases d : w m.toNatClampNeg = 0
    · rw [if_pos d] at h
      exact Or.inl ⟨(Option.some.inj h).symm, fun q => q.2 d⟩
    · rw [if_neg d] at h
      exact Or.inr ⟨(Option.some.inj h).symm, by (first | ((try clear h); grind) | grind), d⟩
theorem zVal_c {m a : Int32} {lo lo' : Nat → Int64} (h : m = (-1) ∨ lo' m.toNatClampNeg = lo m.toNatClampNeg) : zVal m a lo' = zVal m a lo := by
  unfold zVal
  rcases h with h | h
  · rw [if_pos h, if_pos h]
  · rw [h]
theorem zLw_c {i : Int32} {op made amt : Nat → Int32} {lo hi lo' hi' : Nat → Int64} (h0 : made (2 * i + 0).toNatClampNeg = (-1) ∨ (lo' (made (2 * i + 0).toNatClampNeg).toNatClampNeg = lo (made (2 * i + 0).toNatClampNeg).toNatClampNeg ∧ hi' (made (2 * i + 0).toNatClampNeg).toNatClampNeg = hi (made (2 * i + 0).toNatClampNeg).toNatClampNeg)) (h1 : made (2 * i + 1).toNatClampNeg = (-1) ∨ (lo' (made (2 * i + 1).toNatClampNeg).toNatClampNeg = lo (made (2 * i + 1).toNatClampNeg).toNatClampNeg ∧ hi' (made (2 * i + 1).toNatClampNeg).toNatClampNeg = hi (made (2 * i + 1).toNatClampNeg).toNatClampNeg)) : zLw i op made amt lo' hi' = zLw i op made amt lo hi ∧ zHg i op made amt lo' hi' = zHg i op made amt lo hi := by
  have a0 : zVal (made (2 * i + 0).toNatClampNeg) (amt (2 * i + 0).toNatClampNeg) lo' = zVal (made (2 * i + 0).toNatClampNeg) (amt (2 * i + 0).toNatClampNeg) lo := zVal_c (h0.imp id (fun q => q.1))
  have a1 : zVal (made (2 * i + 0).toNatClampNeg) (amt (2 * i + 0).toNatClampNeg) hi' = zVal (made (2 * i + 0).toNatClampNeg) (amt (2 * i + 0).toNatClampNeg) hi := zVal_c (h0.imp id (fun q => q.2))
  have b0 : zVal (made (2 * i + 1).toNatClampNeg) (amt (2 * i + 1).toNatClampNeg) lo' = zVal (made (2 * i + 1).toNatClampNeg) (amt (2 * i + 1).toNatClampNeg) lo := zVal_c (h1.imp id (fun q => q.1))
  have b1 : zVal (made (2 * i + 1).toNatClampNeg) (amt (2 * i + 1).toNatClampNeg) hi' = zVal (made (2 * i + 1).toNatClampNeg) (amt (2 * i + 1).toNatClampNeg) hi := zVal_c (h1.imp id (fun q => q.2))
  unfold zLw zHg
  rw [a0, a1, b0, b1]
  exact ⟨rfl, rfl⟩
theorem zLw_b {i : Int32} {op made amt : Nat → Int32} {lo hi lo' hi' : Nat → Int64} (hk : zOk i op made) (h : ∀ j : Int32, 0 ≤ j → j < i → lo' j.toNatClampNeg = lo j.toNatClampNeg ∧ hi' j.toNatClampNeg = hi j.toNatClampNeg) : zLw i op made amt lo' hi' = zLw i op made amt lo hi ∧ zHg i op made amt lo' hi' = zHg i op made amt lo hi := by
  obtain ⟨k1, k2, k3, k4⟩ := hk
  refine zLw_c ?_ ?_
  · by_cases c : made (2 * i + 0).toNatClampNeg = (-1)
    · exact Or.inl c
    · exact Or.inr (h _ (by (first | ((try clear hk); (try clear h); grind) | grind)) k2.2)
  · by_cases c : made (2 * i + 1).toNatClampNeg = (-1)
    · exact Or.inl c
    · exact Or.inr (h _ (by (first | ((try clear hk); (try clear h); grind) | grind)) k3.2)
noncomputable def zRN1 (i inp : Int32) (more : Int64) (op made amt rwd : Nat → Int32) (rlo rhi : Nat → Int64) : Prop := rlo i.toNatClampNeg = zHd (zLw i op made amt rlo rhi - (if i = inp then more else 0)) ∧ rhi i.toNatClampNeg = zHd (zHg i op made amt rlo rhi + (if i = inp then more else 0)) ∧ (rwd i.toNatClampNeg = 1 ∧ (1000000000 < zMx (zAb (rlo i.toNatClampNeg)) (zAb (rhi i.toNatClampNeg)) ∨ zWd rwd (made (2 * i + 0).toNatClampNeg) ∨ zWd rwd (made (2 * i + 1).toNatClampNeg)) ∨ rwd i.toNatClampNeg = 0 ∧ ¬ (1000000000 < zMx (zAb (rlo i.toNatClampNeg)) (zAb (rhi i.toNatClampNeg)) ∨ zWd rwd (made (2 * i + 0).toNatClampNeg) ∨ zWd rwd (made (2 * i + 1).toNatClampNeg)))
noncomputable def zRN (cN inp : Int32) (more : Int64) (op made amt rwd : Nat → Int32) (rlo rhi : Nat → Int64) : Prop := ∀ i : Int32, 0 ≤ i → i < cN → zRN1 i inp more op made amt rwd rlo rhi
theorem zWd_c {w w' : Nat → Int32} {m : Int32} (h : m = (-1) ∨ w' m.toNatClampNeg = w m.toNatClampNeg) : zWd w' m ↔ zWd w m := by
  unfold zWd
  rcases h with h | h
  · exact ⟨fun q => absurd h q.1, fun q => absurd h q.1⟩
  · rw [h]
theorem zRN1_c {i inp : Int32} {more : Int64} {op made amt w w' : Nat → Int32} {lo hi lo' hi' : Nat → Int64} (i0 : 0 ≤ i) (hk : zOk i op made) (h : ∀ j : Int32, 0 ≤ j → j < i + 1 → lo' j.toNatClampNeg = lo j.toNatClampNeg ∧ hi' j.toNatClampNeg = hi j.toNatClampNeg ∧ w' j.toNatClampNeg = w j.toNatClampNeg) (i1 : i < 14) (H : zRN1 i inp more op made amt w lo hi) : zRN1 i inp more op made amt w' lo' hi' := by
  obtain ⟨e1, e2⟩ := zLw_b (amt := amt) hk (fun j j0 j1 => ⟨(h j j0 (by (first | ((try clear hk); (try clear h); (try clear H); grind) | grind))).1, (h j j0 (by (first | ((try clear hk); (try clear h); (try clear H); grind) | grind))).2.1⟩)
  obtain ⟨f1, f2, f3⟩ := h i i0 (by (first | ((try clear hk); (try clear h); (try clear H); grind) | grind))
  obtain ⟨k1, k2, k3, k4⟩ := hk
  have g0 : zWd w' (made (2 * i + 0).toNatClampNeg) ↔ zWd w (made (2 * i + 0).toNatClampNeg) := zWd_c (by
    by_cases c : made (2 * i + 0).toNatClampNeg = (-1)
    · exact Or.inl c
    · exact Or.inr (h _ (by (first | ((try clear hk); (try clear h); (try clear H); grind) | grind)) (by (first | ((try clear hk); (try clear h); (try clear H); grind) | grind))).2.2)
  have g1 : zWd w' (made (2 * i + 1).toNatClampNeg) ↔ zWd w (made (2 * i + 1).toNatClampNeg) := zWd_c (by
    by_cases c : made (2 * i + 1).toNatClampNeg = (-1)
    · exact Or.inl c
    · exact Or.inr (h _ (by (first | ((try clear hk); (try clear h); (try clear H); grind) | grind)) (by (first | ((try clear hk); (try clear h); (try clear H); grind) | grind))).2.2)
  unfold zRN1
  rw [e1, e2, f1, f2, f3, g0, g1]
  exact H
set_option maxHeartbeats 4000000 in
theorem zFill {cN p2 p3 : Int32} {op made amt wd : Nat → Int32} {lo hi : Nat → Int64} {x : (Nat → Int64) × (Nat → Int64) × (Nat → Int32)} (hN : 0 ≤ cN ∧ cN ≤ 14) (hk : ∀ i : Int32, 0 ≤ i → i < cN → zOk i op made) (h : fn_X6_fill p2 p3 cN op made amt lo hi wd = some x) : zRN cN p2 p3.toInt64 op made amt x.2.2 x.1 x.2.1 := by
  unfold fn_X6_fill at h
  refine zl_ip (P := fun x : (Nat → Int64) × (Nat → Int64) × (Nat → Int32) => zRN cN p2 p3.toInt64 op made amt x.2.2 x.1 x.2.1) (fun s => 0 ≤ s.1 ∧ s.1 ≤ cN ∧ zRN s.1 p2 p3.toInt64 op made amt s.2.2.2 s.2.1 s.2.2.1) ?_ _ _ _ ?_ h
  rotate_left
  · exact ⟨(show (0 : Int32) ≤ 0 by decide), hN.1, fun i i0 i1 => absurd i1 (by show ¬ i < 0; (first | ((try clear hk); (try clear h); grind) | grind))⟩
  intro s back o ⟨H1, H2, H3⟩ hb ho
  obtain ⟨i, lo, hi, wd⟩ := s
  dsimp only at H1 H2 H3 ho
  by_cases c : cN ≤ i
  · rw [if_pos c] at ho
    have e : i = cN := by (first | ((try clear hk); (try clear h); (try clear hb); (try clear ho); grind) | grind)
    subst e
    rw [← Option.some.inj ho]
    exact H3
  · rw [if_neg c] at ho
    have hi' : 0 ≤ i ∧ i < cN := ⟨H1, by (first | ((try clear hk); (try clear h); (try clear hb); (try clear ho); grind) | grind)⟩
    have h14 : 0 ≤ i ∧ i < 14 := ⟨H1, by (first | ((try clear hk); (try clear h); (try clear hb); (try clear ho); grind) | grind)⟩
    have ok := hk i hi'.1 hi'.2
    obtain ⟨j, ej, ho⟩ := zj_g ho
    try dsimp only at ho
    have ho : j (if i = p2 then p3.toInt64 else 0) = some o := by
      by_cases q : i = p2
      · rw [if_pos q] at ho ⊢; exact ho
      · rw [if_neg q] at ho ⊢; exact ho
    have ho := zj_s ej ho
    try dsimp only at ho
    clear ej
    rw [zLwJ hN.2 hi' ok, zb_some, zHeld, zb_some] at ho
    obtain ⟨-, ho⟩ := zg_s ho
    rw [zHgJ hN.2 hi' ok, zb_some, zHeld, zb_some, zAmtOf h14, zb_some] at ho
    generalize hm : (if i = p2 then p3.toInt64 else 0) = more at ho
    generalize hA : zHd (zLw i op made amt lo hi - more) = A at ho
    have eH := (zLw_b (amt := amt) (lo := lo) (hi := hi) (lo' := vp_updL lo i.toNatClampNeg A) (hi' := hi) ok (fun j j0 j1 => ⟨by rw [zupL H1 j0, if_neg (by (first | ((try clear hk); (try clear h); (try clear hb); (try clear ho); (try clear ej); grind) | grind))], rfl⟩)).2
    rw [eH] at ho
    generalize hB : zHd (zHg i op made amt lo hi + more) = B at ho
    have fin : ∀ v : Int32, (v = 1 ∧ (1000000000 < zMx (zAb A) (zAb B) ∨ zWd wd (made (2 * i + 0).toNatClampNeg) ∨ zWd wd (made (2 * i + 1).toNatClampNeg)) ∨ v = 0 ∧ ¬ (1000000000 < zMx (zAb A) (zAb B) ∨ zWd wd (made (2 * i + 0).toNatClampNeg) ∨ zWd wd (made (2 * i + 1).toNatClampNeg))) → back (i + 1, vp_updL lo i.toNatClampNeg A, vp_updL hi i.toNatClampNeg B, upd wd i.toNatClampNeg v) = some o → zRN cN p2 p3.toInt64 op made amt o.2.2 o.1 o.2.1 := by
      intro v hv hbk
      refine hb _ _ ?_ hbk
      refine ⟨(show 0 ≤ i + 1 by (first | ((try clear hk); (try clear h); (try clear hb); (try clear ho); (try clear ej); (try clear fin); grind) | grind)), (show i + 1 ≤ cN by (first | ((try clear hk); (try clear h); (try clear hb); (try clear ho); (try clear ej); (try clear fin); grind) | grind)), fun j j0 j1 => ?_⟩
      have j1 : j < i + 1 := j1
      show zRN1 j p2 p3.toInt64 op made amt (upd wd i.toNatClampNeg v) (vp_updL lo i.toNatClampNeg A) (vp_updL hi i.toNatClampNeg B)
      by_cases q : j = i
      · subst q
        have nn : ∀ m : Int32, 0 ≤ m → m < j → vp_updL lo j.toNatClampNeg A m.toNatClampNeg = lo m.toNatClampNeg ∧ vp_updL hi j.toNatClampNeg B m.toNatClampNeg = hi m.toNatClampNeg := fun m m0 m1 => ⟨by rw [zupL H1 m0, if_neg (by (first | ((try clear hk); (try clear h); (try clear hb); (try clear ho); (try clear ej); (try clear fin); (try clear nn); grind) | grind))], by rw [zupL H1 m0, if_neg (by (first | ((try clear hk); (try clear h); (try clear hb); (try clear ho); (try clear ej); (try clear fin); (try clear nn); grind) | grind))]⟩
        obtain ⟨e1, e2⟩ := zLw_b (amt := amt) ok nn
        obtain ⟨k1, k2, k3, k4⟩ := ok
        have g0 : zWd (upd wd j.toNatClampNeg v) (made (2 * j + 0).toNatClampNeg) ↔ zWd wd (made (2 * j + 0).toNatClampNeg) := zWd_c (by
          by_cases c : made (2 * j + 0).toNatClampNeg = (-1)
          · exact Or.inl c
          · exact Or.inr (by rw [zup H1 (by (first | ((try clear hk); (try clear h); (try clear hb); (try clear ho); (try clear ej); (try clear fin); (try clear nn); grind) | grind)), if_neg (by (first | ((try clear hk); (try clear h); (try clear hb); (try clear ho); (try clear ej); (try clear fin); (try clear nn); grind) | grind))]))
        have g1 : zWd (upd wd j.toNatClampNeg v) (made (2 * j + 1).toNatClampNeg) ↔ zWd wd (made (2 * j + 1).toNatClampNeg) := zWd_c (by
          by_cases c : made (2 * j + 1).toNatClampNeg = (-1)
          · exact Or.inl c
          · exact Or.inr (by rw [zup H1 (by (first | ((try clear hk); (try clear h); (try clear hb); (try clear ho); (try clear ej); (try clear fin); (try clear nn); grind) | grind)), if_neg (by (first | ((try clear hk); (try clear h); (try clear hb); (try clear ho); (try clear ej); (try clear fin); (try clear nn); grind) | grind))]))
        unfold zRN1
        rw [e1, e2, g0, g1, zupL H1 H1, zupL H1 H1, zup H1 H1, if_pos rfl, if_pos rfl, if_pos rfl, hm]
        exact ⟨hA.symm, hB.symm, hv⟩
      · have lt : j < i := by (first | ((try clear hk); (try clear h); (try clear hb); (try clear ho); (try clear ej); (try clear fin); (try clear nn); grind) | grind)
        refine zRN1_c j0 (hk j j0 (by (first | ((try clear hk); (try clear h); (try clear hb); (try clear ho); (try clear ej); (try clear fin); (try clear nn); grind) | grind))) (fun m m0 m1 => ?_) (by (first | ((try clear hk); (try clear h); (try clear hb); (try clear ho); (try clear ej); (try clear fin); (try clear nn); grind) | grind)) (H3 j j0 lt)
        have ne : ¬ m = i := by (first | ((try clear hk); (try clear h); (try clear hb); (try clear ho); (try clear ej); (try clear fin); (try clear nn); grind) | grind)
        rw [zupL H1 m0, zupL H1 m0, zup H1 m0, if_neg ne, if_neg ne, if_neg ne]
        exact ⟨rfl, rfl, rfl⟩
    rw [zupL H1 H1, zupL H1 H1, if_pos rfl, if_pos rfl] at ho
    by_cases d : 1000000000 < zMx (zAb A) (zAb B)
    · rw [if_pos ((lg_cmp_gt _ _).mpr d)] at ho
      exact fin _ (Or.inl ⟨rfl, Or.inl d⟩) ho
    · rw [if_neg (fun q => d ((lg_cmp_gt _ _).mp q)), zMade0 hN.2 hi', zb_some] at ho
      obtain ⟨w0, hw0, ho⟩ := zb_s ho
      rcases zIsWide ⟨ok.2.1.1, by have := ok.2.1.2; (first | ((try clear hk); (try clear h); (try clear hb); (try clear ho); (try clear ej); (try clear fin); (try clear nn); (try clear hw0); grind) | grind)⟩ hw0 with ⟨z1, z2⟩ | ⟨z1, z2⟩
      · rw [if_pos z1, zMade1 hN.2 hi', zb_some] at ho
        obtain ⟨w1, hw1, ho⟩ := zb_s ho
        rcases zIsWide ⟨ok.2.2.1.1, by have := ok.2.2.1.2; (first | ((try clear hk); (try clear h); (try clear hb); (try clear ho); (try clear ej); (try clear fin); (try clear nn); (try clear hw0); (try clear hw1); grind) | grind)⟩ hw1 with ⟨y1, y2⟩ | ⟨y1, y2⟩
        · rw [if_pos y1] at ho
          exact fin _ (Or.inr ⟨rfl, fun q => q.elim d (fun q => q.elim z2 y2)⟩) ho
        · rw [if_neg (by rw [y1]; decide)] at ho
          exact fin _ (Or.inl ⟨rfl, Or.inr (Or.inr y2)⟩) ho
      · rw [if_neg (by rw [z1]; decide)] at ho
        exact fin _ (Or.inl ⟨rfl, Or.inr (Or.inl z2)⟩) ho
/-! how far both ends may go -/
theorem zAb_le {x c : Int64} (hc : 0 ≤ c) (h : ¬ c < zAb x) (hx : -9223372036854775808 < x) : -c ≤ x ∧ x ≤ c := by
  unfold zAb at h
  by_cases d : 0 < x
  · rw [if_pos d] at h
    constructor <;> grind
  · rw [if_neg d] at h
    constructor <;> grind
theorem zHd_b (x : Int64) : -2000000000 ≤ zHd x ∧ zHd x ≤ 2000000000 := by
  unfold zHd
  constructor <;> grind
theorem zHd_in {x : Int64} (h : -2000000000 ≤ x ∧ x ≤ 2000000000) : zHd x = x := by
  unfold zHd
  grind
theorem zHd_w {x : Int64} (hx : -9223372036854775808 < x) : 1000000000 < zAb (zHd x) ↔ 1000000000 < zAb x := by
  by_cases h : -2000000000 ≤ x ∧ x ≤ 2000000000
  · rw [zHd_in h]
  · have e : zHd x = 2000000000 ∧ 2000000000 < x ∨ zHd x = -2000000000 ∧ x < -2000000000 := by
      unfold zHd
      grind
    rcases e with ⟨e1, e2⟩ | ⟨e1, e2⟩
    · rw [e1]
      unfold zAb
      rw [if_pos (by decide), if_pos (by grind)]
      exact ⟨fun _ => by grind, fun _ => by decide⟩
    · rw [e1]
      unfold zAb
      rw [if_neg (by decide), if_neg (by grind)]
      exact ⟨fun _ => by grind, fun _ => by decide⟩
theorem zdv2000 (x : Int64) : -4611686018427388 ≤ x / 2000 ∧ x / 2000 ≤ 4611686018427388 := by
  have e : (x / 2000).toInt = x.toInt.tdiv 2000 := by
    rw [Int64.toInt_div_of_ne_right]
    · rfl
    · decide
  have h1 := Int64.toInt_lt x
  have h2 := Int64.le_toInt x
  have h3 : -4611686018427388 ≤ x.toInt.tdiv 2000 ∧ x.toInt.tdiv 2000 ≤ 4611686018427388 := by
    by_cases c : 0 ≤ x.toInt
    · rw [Int.tdiv_eq_ediv_of_nonneg c]
      omega
    · have := Int.tdiv_eq_ediv_of_nonneg (a := -x.toInt) (b := 2000) (by omega)
      rw [Int.neg_tdiv] at this
      omega
  refine ⟨Int64.le_iff_toInt_le.mpr ?_, Int64.le_iff_toInt_le.mpr ?_⟩
  · rw [e, show (-4611686018427388 : Int64).toInt = -4611686018427388 by decide +kernel]
    exact h3.1
  · rw [e, show (4611686018427388 : Int64).toInt = 4611686018427388 by decide +kernel]
    exact h3.2
theorem zPr_b (a b : Int64) : -5000000000000000 ≤ zPr a b 1 ∧ zPr a b 1 ≤ 5000000000000000 := by
  unfold zPr zFd
  rw [show (2000 * 1 : Int64) = 2000 by decide]
  have h := zdv2000 (2 * a * b + 1000 * 1)
  generalize (2 * a * b + 1000 * 1) = x at h ⊢
  generalize x / 2000 = q at h ⊢
  by_cases c : x - q * 2000 = 0
  · rw [if_pos c, Int64.mul_one]
    constructor <;> grind
  · rw [if_neg c]
    by_cases d : 0 ≤ x
    · rw [if_pos d, Int64.mul_one]
      constructor <;> grind
    · rw [if_neg d, Int64.mul_one]
      constructor <;> grind
theorem zVal_r {m a : Int32} {row : Nat → Int64} (ha : (-10000000) ≤ a ∧ a ≤ 10000000) (h : m = (-1) ∨ (-1000000000 ≤ row m.toNatClampNeg ∧ row m.toNatClampNeg ≤ 1000000000)) : -1000000000 ≤ zVal m a row ∧ zVal m a row ≤ 1000000000 := by
  unfold zVal
  by_cases c : m = (-1)
  · rw [if_pos c, show (-1000000000 : Int64) = (-1000000000 : Int32).toInt64 by decide +kernel, show (1000000000 : Int64) = (1000000000 : Int32).toInt64 by decide +kernel, z64_le, z64_le]
    constructor <;> grind
  · rw [if_neg c]
    exact h.resolve_left c
theorem zLoV_b {p : Int32} {a b c d : Int64} (ha : -1000000000 ≤ a ∧ a ≤ 1000000000) (hb : -1000000000 ≤ b ∧ b ≤ 1000000000) (hc : -1000000000 ≤ c ∧ c ≤ 1000000000) (hd : -1000000000 ≤ d ∧ d ≤ 1000000000) : (-5000000000000000 ≤ zLoV p a b c d ∧ zLoV p a b c d ≤ 5000000000000000) ∧ (-5000000000000000 ≤ zHiV p a b c d ∧ zHiV p a b c d ≤ 5000000000000000) := by
  have p1 := zPr_b a c
  have p2 := zPr_b a d
  have p3 := zPr_b b c
  have p4 := zPr_b b d
  unfold zLoV zHiV zAp
  generalize zPr a c 1 = q1 at p1 ⊢
  generalize zPr a d 1 = q2 at p2 ⊢
  generalize zPr b c 1 = q3 at p3 ⊢
  generalize zPr b d 1 = q4 at p4 ⊢
  have mn : ∀ x y : Int64, zLs x y = x ∨ zLs x y = y := fun x y => by unfold zLs; (first | ((try clear mn); grind) | grind)
  have mx : ∀ x y : Int64, zMx x y = x ∨ zMx x y = y := fun x y => by unfold zMx; (first | ((try clear mn); (try clear mx); grind) | grind)
  by_cases c2 : p = 2
  · rw [if_pos c2, if_pos c2]
    refine ⟨⟨?_, ?_⟩, ?_, ?_⟩ <;> (first | ((try clear mn); (try clear mx); grind) | grind)
  · rw [if_neg c2, if_neg c2]
    by_cases c3 : p = 3
    · rw [if_pos c3, if_pos c3]
      have m1 := mn q1 q2
      have m2 := mn q3 q4
      have m3 := mn (zLs q1 q2) (zLs q3 q4)
      have n1 := mx q1 q2
      have n2 := mx q3 q4
      have n3 := mx (zMx q1 q2) (zMx q3 q4)
      generalize zLs q1 q2 = u1 at m1 m3 ⊢
      generalize zLs q3 q4 = u2 at m2 m3 ⊢
      generalize zLs u1 u2 = u3 at m3 ⊢
      generalize zMx q1 q2 = v1 at n1 n3 ⊢
      generalize zMx q3 q4 = v2 at n2 n3 ⊢
      generalize zMx v1 v2 = v3 at n3 ⊢
      refine ⟨⟨?_, ?_⟩, ?_, ?_⟩ <;> (first | ((try clear mn); (try clear mx); grind) | grind)
    · rw [if_neg c3, if_neg c3, if_neg c3, if_neg c2, if_neg c3, if_neg c2]
      have m1 := mn a c
      have n1 := mx a c
      have m2 := mn b d
      have n2 := mx b d
      generalize zLs a c = u1 at m1 ⊢
      generalize zMx a c = u2 at n1 ⊢
      generalize zLs b d = u3 at m2 ⊢
      generalize zMx b d = u4 at n2 ⊢
      by_cases c1 : p = 1
      · rw [if_pos c1, if_pos c1]
        refine ⟨⟨?_, ?_⟩, ?_, ?_⟩ <;> (first | ((try clear mn); (try clear mx); grind) | grind)
      · rw [if_neg c1, if_neg c1]
        by_cases c4 : p = 4
        · rw [if_pos c4, if_pos c4]
          refine ⟨⟨?_, ?_⟩, ?_, ?_⟩ <;> (first | ((try clear mn); (try clear mx); grind) | grind)
        · rw [if_neg c4, if_neg c4]
          refine ⟨⟨?_, ?_⟩, ?_, ?_⟩ <;> (first | ((try clear mn); (try clear mx); grind) | grind)
theorem zLw_r {i cF : Int32} {nN op fx al made amt lets mNN mO m1 m2 mX mW : Nat → Int32} {mA mB lo hi : Nat → Int64} (hk : zN01 i cF nN op fx al made amt lets mNN mO m1 m2 mX mW mA mB) (h0 : made (2 * i + 0).toNatClampNeg = (-1) ∨ ((-1000000000 ≤ lo (made (2 * i + 0).toNatClampNeg).toNatClampNeg ∧ lo (made (2 * i + 0).toNatClampNeg).toNatClampNeg ≤ 1000000000) ∧ (-1000000000 ≤ hi (made (2 * i + 0).toNatClampNeg).toNatClampNeg ∧ hi (made (2 * i + 0).toNatClampNeg).toNatClampNeg ≤ 1000000000))) (h1 : made (2 * i + 1).toNatClampNeg = (-1) ∨ ((-1000000000 ≤ lo (made (2 * i + 1).toNatClampNeg).toNatClampNeg ∧ lo (made (2 * i + 1).toNatClampNeg).toNatClampNeg ≤ 1000000000) ∧ (-1000000000 ≤ hi (made (2 * i + 1).toNatClampNeg).toNatClampNeg ∧ hi (made (2 * i + 1).toNatClampNeg).toNatClampNeg ≤ 1000000000))) : (-5000000000000000 ≤ zLw i op made amt lo hi ∧ zLw i op made amt lo hi ≤ 5000000000000000) ∧ (-5000000000000000 ≤ zHg i op made amt lo hi ∧ zHg i op made amt lo hi ≤ 5000000000000000) := by
  obtain ⟨q1, q2, q3, q4, q5, q6, q7, q8, q9, q10, q11, q12, q13, q14, q15, q16, q17⟩ := hk
  unfold zLw zHg
  by_cases c : op i.toNatClampNeg = 0
  · rw [if_pos c, if_pos c, show (-5000000000000000 : Int64) ≤ (amt (2 * i + 0).toNatClampNeg).toInt64 ↔ True from ⟨fun _ => trivial, fun _ => ?_⟩, show (-5000000000000000 : Int64) ≤ (amt (2 * i + 1).toNatClampNeg).toInt64 ↔ True from ⟨fun _ => trivial, fun _ => ?_⟩]
    · refine ⟨⟨trivial, ?_⟩, trivial, ?_⟩
      · exact Int64.le_iff_toInt_le.mpr (by rw [z64_i, show (5000000000000000 : Int64).toInt = 5000000000000000 by decide +kernel]; have := Int32.toInt_lt (amt (2 * i + 0).toNatClampNeg); omega)
      · exact Int64.le_iff_toInt_le.mpr (by rw [z64_i, show (5000000000000000 : Int64).toInt = 5000000000000000 by decide +kernel]; have := Int32.toInt_lt (amt (2 * i + 1).toNatClampNeg); omega)
    · exact Int64.le_iff_toInt_le.mpr (by rw [z64_i, show (-5000000000000000 : Int64).toInt = -5000000000000000 by decide +kernel]; have := Int32.le_toInt (amt (2 * i + 1).toNatClampNeg); omega)
    · exact Int64.le_iff_toInt_le.mpr (by rw [z64_i, show (-5000000000000000 : Int64).toInt = -5000000000000000 by decide +kernel]; have := Int32.le_toInt (amt (2 * i + 0).toNatClampNeg); omega)
  · rw [if_neg c, if_neg c]
    exact zLoV_b (zVal_r q14 (h0.imp id (fun q => q.1))) (zVal_r q14 (h0.imp id (fun q => q.2))) (zVal_r q15 (h1.imp id (fun q => q.1))) (zVal_r q15 (h1.imp id (fun q => q.2)))
theorem zGrPt {m x : Int32} {ig : Nat → Int32} (h : fn_X12_isGreatPart m ig = some x) : x = 0 ∧ ¬ zWd ig m ∨ x = 1 ∧ zWd ig m := by
  unfold fn_X12_isGreatPart at h
  by_cases c : m = (-1)
  · rw [if_pos c] at h
    exact Or.inl ⟨(Option.some.inj h).symm, fun q => q.1 c⟩
  · rw [if_neg c] at h
    obtain ⟨-, h⟩ := zg_s h
    by_cases d : ig m.toNatClampNeg = 0
    · rw [if_pos d] at h
      exact Or.inl ⟨(Option.some.inj h).symm, fun q => q.2 d⟩
    · rw [if_neg d] at h
      exact Or.inr ⟨(Option.some.inj h).symm, c, d⟩
set_option maxHeartbeats 4000000 in
theorem zeq_range {cF cc cN inp mWn : Int32} {nF nN stp mst prc al made amt op fx jn lets rwd mF mN mCst mNF mNN mS mM mC mW mO m1 m2 mX mG mIg : Nat → Int32} {rlo rhi mA mB mLe mGe : Nat → Int64} {mWb : Int64} {p1 p2 : Int32} {x : Int64} {y : Int64 × Int32 × (Nat → Int32) × (Nat → Int64) × (Nat → Int64)} (T : zTN cF cc cN inp nF nN stp mst prc al made amt op fx jn lets mF mN mNF mNN mS mM mC mW mCst mO m1 m2 mX mG mA mB) (R : zRN cN (-1) 0 op made amt rwd rlo rhi) (h1 : fn_X11_range p1 p2 cN rwd rlo rhi = some x) (h2 : fn_X12_range p1 p2 mWn mWb mN m1 mIg m2 mO mLe mA mB mGe = some y) : x = y.1 := by
  obtain ⟨hF, ⟨n1, n2, n3⟩, hC, hz, hp, hI, hf, hn, hg⟩ := T
  unfold fn_X11_range at h1
  unfold fn_X12_range at h2
  rw [zHasN, zb_some] at h1
  rw [zIsNum (by rw [n1]; exact n2), zb_some, n1] at h2
  by_cases c : 0 ≤ p1 ∧ p1 < cN
  · rw [if_neg (by rw [zif1]; exact fun q => q c)] at h1 h2
    obtain ⟨-, h1⟩ := zg_s h1
    refine zl_ip (P := fun y : Int64 × Int32 × (Nat → Int32) × (Nat → Int64) × (Nat → Int64) => x = y.1) (fun s => 0 ≤ s.1 ∧ s.1 ≤ p1 + 1 ∧ ∀ j : Int32, 0 ≤ j → j < s.1 → s.2.2.2 j.toNatClampNeg = rwd j.toNatClampNeg ∧ (rwd j.toNatClampNeg = 0 → s.2.1 j.toNatClampNeg = rlo j.toNatClampNeg ∧ s.2.2.1 j.toNatClampNeg = rhi j.toNatClampNeg)) ?_ _ _ _ ?_ h2
    rotate_left
    · exact ⟨(show (0 : Int32) ≤ 0 by decide), (show 0 ≤ p1 + 1 by (first | ((try clear T); (try clear R); (try clear h1); (try clear h2); (try clear hC); (try clear hI); (try clear hf); (try clear hn); (try clear hg); grind) | grind)), fun j j1 j2 => absurd j2 (by show ¬ j < 0; (first | ((try clear T); (try clear R); (try clear h1); (try clear h2); (try clear hC); (try clear hI); (try clear hf); (try clear hn); (try clear hg); grind) | grind))⟩
    intro s back o ⟨H1, H2, H3⟩ hb ho
    obtain ⟨k, lo, hi, ig⟩ := s
    dsimp only at H1 H2 H3 ho
    by_cases e : p1 < k
    · rw [if_pos e] at ho
      obtain ⟨-, ho⟩ := zg_s ho
      obtain ⟨a1, a2⟩ := H3 p1 c.1 e
      by_cases w : rwd p1.toNatClampNeg = 0
      · obtain ⟨a3, a4⟩ := a2 w
        rw [if_pos w] at h1
        rw [if_pos (a1.trans w)] at ho
        by_cases v : p2 = 0
        · rw [if_pos v] at h1 ho
          rw [← Option.some.inj ho, ← Option.some.inj h1]; exact a3.symm
        · rw [if_neg v] at h1 ho
          rw [← Option.some.inj ho, ← Option.some.inj h1]; exact a4.symm
      · rw [if_neg w] at h1
        rw [if_neg (fun q => w (a1.symm.trans q))] at ho
        rw [← Option.some.inj ho, ← Option.some.inj h1]
    · rw [if_neg e] at ho
      have hk : 0 ≤ k ∧ k < cN := ⟨H1, by (first | ((try clear T); (try clear R); (try clear h1); (try clear h2); (try clear hC); (try clear hI); (try clear hf); (try clear hn); (try clear hg); (try clear hb); (try clear ho); grind) | grind)⟩
      obtain ⟨-, ho⟩ := zg_s ho
      obtain ⟨w0, hw0, ho⟩ := zb_s ho
      have hn1 := hn k hk.1 hk.2
      obtain ⟨q1, q2, q3, q4, q5, q6, q7, q8, q9, q10, q11, q12, q13, q14, q15, q16, q17⟩ := hn k hk.1 hk.2
      obtain ⟨r1, r2, r3⟩ := R k hk.1 hk.2
      rw [if_neg (show ¬ k = (-1) by (first | ((try clear T); (try clear R); (try clear h1); (try clear h2); (try clear hC); (try clear hI); (try clear hf); (try clear hn); (try clear hg); (try clear hb); (try clear ho); (try clear hw0); grind) | grind)), Int64.sub_zero] at r1
      rw [if_neg (show ¬ k = (-1) by (first | ((try clear T); (try clear R); (try clear h1); (try clear h2); (try clear hC); (try clear hI); (try clear hf); (try clear hn); (try clear hg); (try clear hb); (try clear ho); (try clear hw0); grind) | grind)), Int64.add_zero] at r2
      have gw : ∀ m : Int32, (-1) ≤ m → m < k → (zWd ig m ↔ zWd rwd m) := fun m m0 m1 => zWd_c (by
        by_cases c : m = (-1)
        · exact Or.inl c
        · exact Or.inr (H3 m (by (first | ((try clear T); (try clear R); (try clear h1); (try clear h2); (try clear hC); (try clear hI); (try clear hf); (try clear hn); (try clear hg); (try clear hb); (try clear ho); (try clear hw0); (try clear gw); grind) | grind)) m1).1)
      have fin : ∀ (v : Int32) (lo' hi' : Nat → Int64), v = rwd k.toNatClampNeg → (∀ j : Int32, 0 ≤ j → j < k → lo' j.toNatClampNeg = lo j.toNatClampNeg ∧ hi' j.toNatClampNeg = hi j.toNatClampNeg) → (rwd k.toNatClampNeg = 0 → lo' k.toNatClampNeg = rlo k.toNatClampNeg ∧ hi' k.toNatClampNeg = rhi k.toNatClampNeg) → ∀ g : Nat → Int32, (∀ j : Int32, 0 ≤ j → g j.toNatClampNeg = if j = k then v else ig j.toNatClampNeg) → back (k + 1, lo', hi', g) = some o → x = o.1 := by
        intro v lo' hi' hv hl hl2 g hgg hbk
        refine hb _ _ ?_ hbk
        refine ⟨(show 0 ≤ k + 1 by (first | ((try clear T); (try clear R); (try clear h1); (try clear h2); (try clear hC); (try clear hI); (try clear hf); (try clear hn); (try clear hg); (try clear hb); (try clear ho); (try clear hw0); (try clear gw); (try clear fin); grind) | grind)), (show k + 1 ≤ p1 + 1 by (first | ((try clear T); (try clear R); (try clear h1); (try clear h2); (try clear hC); (try clear hI); (try clear hf); (try clear hn); (try clear hg); (try clear hb); (try clear ho); (try clear hw0); (try clear gw); (try clear fin); grind) | grind)), fun j j1 j2 => ?_⟩
        have j2 : j < k + 1 := j2
        show g j.toNatClampNeg = rwd j.toNatClampNeg ∧ (rwd j.toNatClampNeg = 0 → lo' j.toNatClampNeg = rlo j.toNatClampNeg ∧ hi' j.toNatClampNeg = rhi j.toNatClampNeg)
        rw [hgg j j1]
        by_cases w : j = k
        · rw [if_pos w, w]; exact ⟨hv, hl2⟩
        · have lt : j < k := by (first | ((try clear T); (try clear R); (try clear h1); (try clear h2); (try clear hC); (try clear hI); (try clear hf); (try clear hn); (try clear hg); (try clear hb); (try clear ho); (try clear hw0); (try clear gw); (try clear fin); grind) | grind)
          rw [if_neg w, (hl j j1 lt).1, (hl j j1 lt).2]; exact H3 j j1 lt
      obtain ⟨j16, e16, ho⟩ := zj_g ho
      try dsimp only at ho
      simp only [zj] at ho
      have main : (zWd rwd (made (2 * k + 0).toNatClampNeg) ∨ zWd rwd (made (2 * k + 1).toNatClampNeg)) ∧ j16 1 = some o ∨ ¬ (zWd rwd (made (2 * k + 0).toNatClampNeg) ∨ zWd rwd (made (2 * k + 1).toNatClampNeg)) ∧ j16 0 = some o := by
        rcases zGrPt hw0 with ⟨z1, z2⟩ | ⟨z1, z2⟩
        · rw [if_pos z1] at ho
          obtain ⟨w1, hw1, ho⟩ := zb_s ho
          rcases zGrPt hw1 with ⟨y1, y2⟩ | ⟨y1, y2⟩
          · rw [if_pos y1] at ho
            rw [← q5, gw _ q12.1 q12.2] at z2
            rw [← q6, gw _ q13.1 q13.2] at y2
            exact Or.inr ⟨fun q => q.elim z2 y2, ho⟩
          · rw [if_neg (by rw [y1]; decide)] at ho
            rw [← q6, gw _ q13.1 q13.2] at y2
            exact Or.inl ⟨Or.inr y2, ho⟩
        · rw [if_neg (by rw [z1]; decide)] at ho
          rw [← q5, gw _ q12.1 q12.2] at z2
          exact Or.inl ⟨Or.inl z2, ho⟩
      rcases main with ⟨z, ho⟩ | ⟨z, ho⟩
      · have ho := zj_s e16 ho
        try dsimp only at ho
        obtain ⟨-, ho⟩ := zg_s ho
        simp only [zn] at ho
        have ex : upd ig k.toNatClampNeg (vp_nar .boolean 1) k.toNatClampNeg = 1 := by rw [zup H1 H1, if_pos rfl]; rfl
        rw [ex, if_neg (by decide)] at ho
        refine fin 1 lo hi ?_ (fun _ _ _ => ⟨rfl, rfl⟩) (fun w => ?_) _ (fun j j1 => zup H1 j1) ho
        · rcases r3 with ⟨u1, _⟩ | ⟨_, u2⟩
          · exact u1.symm
          · exact absurd (Or.inr z) u2
        · rcases r3 with ⟨u1, _⟩ | ⟨_, u2⟩
          · rw [u1] at w; exact absurd w (by decide)
          · exact absurd (Or.inr z) u2
      · have ho := zj_s e16 ho
        try dsimp only at ho
        obtain ⟨-, ho⟩ := zg_s ho
        simp only [zn] at ho
        have ex : upd ig k.toNatClampNeg (vp_nar .boolean 0) k.toNatClampNeg = 0 := by rw [zup H1 H1, if_pos rfl]; rfl
        rw [ex, if_pos rfl] at ho
        obtain ⟨u, hu, ho⟩ := zb_s ho
        obtain ⟨v, hv, ho⟩ := zb_s ho
        have hu := zLaysR hn1 hu
        have hv := zMostM hv
        rw [if_neg (show ¬ (k = (-1) ∧ op k.toNatClampNeg = 0) from fun q => by have := q.1; (first | ((try clear T); (try clear R); (try clear h1); (try clear h2); (try clear hC); (try clear hI); (try clear hf); (try clear hn); (try clear hg); (try clear hb); (try clear ho); (try clear hw0); (try clear gw); (try clear fin); (try clear e16); (try clear main); (try clear hw1); grind) | grind)), Int64.sub_zero, Int64.add_zero] at hu
        have part : ∀ m : Int32, (-1) ≤ m → m < k → ¬ zWd rwd m → m = (-1) ∨ (lo m.toNatClampNeg = rlo m.toNatClampNeg ∧ hi m.toNatClampNeg = rhi m.toNatClampNeg) ∧ (-1000000000 ≤ rlo m.toNatClampNeg ∧ rlo m.toNatClampNeg ≤ 1000000000) ∧ (-1000000000 ≤ rhi m.toNatClampNeg ∧ rhi m.toNatClampNeg ≤ 1000000000) := by
          intro m m0 m1 m2
          by_cases w : m = (-1)
          · exact Or.inl w
          · have m0' : 0 ≤ m := by (first | ((try clear T); (try clear R); (try clear h1); (try clear h2); (try clear hC); (try clear hI); (try clear hf); (try clear hn); (try clear hg); (try clear hb); (try clear ho); (try clear hw0); (try clear gw); (try clear fin); (try clear e16); (try clear main); (try clear hw1); (try clear part); grind) | grind)
            have w0 : rwd m.toNatClampNeg = 0 := by
              by_cases w0 : rwd m.toNatClampNeg = 0
              · exact w0
              · exact absurd ⟨w, w0⟩ m2
            obtain ⟨s1, s2, s3⟩ := R m m0' (by (first | ((try clear T); (try clear R); (try clear h1); (try clear h2); (try clear hC); (try clear hI); (try clear hf); (try clear hn); (try clear hg); (try clear hb); (try clear ho); (try clear hw0); (try clear gw); (try clear fin); (try clear e16); (try clear main); (try clear hw1); (try clear part); grind) | grind))
            have b1 := zHd_b (zLw m op made amt rlo rhi - (if m = (-1) then 0 else 0))
            have b2 := zHd_b (zHg m op made amt rlo rhi + (if m = (-1) then 0 else 0))
            rw [← s1] at b1
            rw [← s2] at b2
            have s4 : ¬ 1000000000 < zMx (zAb (rlo m.toNatClampNeg)) (zAb (rhi m.toNatClampNeg)) := by
              rcases s3 with ⟨t1, _⟩ | ⟨_, t2⟩
              · rw [t1] at w0; exact absurd w0 (by decide)
              · exact fun q => t2 (Or.inl q)
            rw [zMx_gt] at s4
            exact Or.inr ⟨(H3 m m0' m1).2 w0, zAb_le (by decide) (fun q => s4 (Or.inl q)) (by (first | ((try clear T); (try clear R); (try clear h1); (try clear h2); (try clear hC); (try clear hI); (try clear hf); (try clear hn); (try clear hg); (try clear hb); (try clear ho); (try clear hw0); (try clear gw); (try clear fin); (try clear e16); (try clear main); (try clear hw1); (try clear part); grind) | grind)), zAb_le (by decide) (fun q => s4 (Or.inr q)) (by (first | ((try clear T); (try clear R); (try clear h1); (try clear h2); (try clear hC); (try clear hI); (try clear hf); (try clear hn); (try clear hg); (try clear hb); (try clear ho); (try clear hw0); (try clear gw); (try clear fin); (try clear e16); (try clear main); (try clear hw1); (try clear part); grind) | grind))⟩
        have pa := part _ q12.1 q12.2 (fun q => z (Or.inl q))
        have pb := part _ q13.1 q13.2 (fun q => z (Or.inr q))
        obtain ⟨e1, e2⟩ := zLw_c (i := k) (op := op) (amt := amt) (made := made) (lo' := lo) (hi' := hi) (lo := rlo) (hi := rhi) (pa.imp id (fun q => q.1)) (pb.imp id (fun q => q.1))
        have bb := zLw_r hn1 (lo := rlo) (hi := rhi) (pa.imp id (fun q => q.2)) (pb.imp id (fun q => q.2))
        rw [e1, e2] at hu
        have eu1 : u.1 k.toNatClampNeg = zLw k op made amt rlo rhi := by rw [hu]; show vp_updL lo k.toNatClampNeg _ k.toNatClampNeg = _; rw [zupL H1 H1, if_pos rfl]
        have eu2 : u.2 k.toNatClampNeg = zHg k op made amt rlo rhi := by rw [hu]; show vp_updL hi k.toNatClampNeg _ k.toNatClampNeg = _; rw [zupL H1 H1, if_pos rfl]
        have elt : ∀ j : Int32, 0 ≤ j → j < k → u.1 j.toNatClampNeg = lo j.toNatClampNeg ∧ u.2 j.toNatClampNeg = hi j.toNatClampNeg := by
          intro j j1 j2
          rw [hu]
          exact ⟨by show vp_updL lo k.toNatClampNeg _ j.toNatClampNeg = _; rw [zupL H1 j1, if_neg (by (first | ((try clear T); (try clear R); (try clear h1); (try clear h2); (try clear hC); (try clear hI); (try clear hf); (try clear hn); (try clear hg); (try clear hb); (try clear ho); (try clear hw0); (try clear gw); (try clear fin); (try clear e16); (try clear main); (try clear hw1); (try clear part); (try clear elt); grind) | grind))], by show vp_updL hi k.toNatClampNeg _ j.toNatClampNeg = _; rw [zupL H1 j1, if_neg (by (first | ((try clear T); (try clear R); (try clear h1); (try clear h2); (try clear hC); (try clear hI); (try clear hf); (try clear hn); (try clear hg); (try clear hb); (try clear ho); (try clear hw0); (try clear gw); (try clear fin); (try clear e16); (try clear main); (try clear hw1); (try clear part); (try clear elt); grind) | grind))]⟩
        rw [eu1, eu2] at hv
        have gt : 1000000000 < v ↔ 1000000000 < zMx (zAb (rlo k.toNatClampNeg)) (zAb (rhi k.toNatClampNeg)) := by
          rw [hv, zMx_gt, zMx_gt, r1, r2, zHd_w (by have := bb.1.1; (first | ((try clear T); (try clear R); (try clear h1); (try clear h2); (try clear hC); (try clear hI); (try clear hf); (try clear hn); (try clear hg); (try clear hb); (try clear ho); (try clear hw0); (try clear gw); (try clear fin); (try clear e16); (try clear main); (try clear hw1); (try clear part); (try clear elt); grind) | grind)), zHd_w (by have := bb.2.1; (first | ((try clear T); (try clear R); (try clear h1); (try clear h2); (try clear hC); (try clear hI); (try clear hf); (try clear hn); (try clear hg); (try clear hb); (try clear ho); (try clear hw0); (try clear gw); (try clear fin); (try clear e16); (try clear main); (try clear hw1); (try clear part); (try clear elt); grind) | grind))]
        by_cases w : v ≤ 1000000000
        · rw [if_pos ((lg_cmp_le _ _).mpr w)] at ho
          have nw : ¬ 1000000000 < zMx (zAb (rlo k.toNatClampNeg)) (zAb (rhi k.toNatClampNeg)) := fun q => by have := gt.mpr q; (first | ((try clear T); (try clear R); (try clear h1); (try clear h2); (try clear hC); (try clear hI); (try clear hf); (try clear hn); (try clear hg); (try clear hb); (try clear ho); (try clear hw0); (try clear gw); (try clear fin); (try clear e16); (try clear main); (try clear hw1); (try clear part); (try clear elt); grind) | grind)
          have r0 : rwd k.toNatClampNeg = 0 := by
            rcases r3 with ⟨_, u2⟩ | ⟨u1, _⟩
            · rcases u2 with u2 | u2
              · exact absurd u2 nw
              · exact absurd u2 z
            · exact u1
          have nv : ¬ 1000000000 < v := by (first | ((try clear T); (try clear R); (try clear h1); (try clear h2); (try clear hC); (try clear hI); (try clear hf); (try clear hn); (try clear hg); (try clear hb); (try clear ho); (try clear hw0); (try clear gw); (try clear fin); (try clear e16); (try clear main); (try clear hw1); (try clear part); (try clear elt); grind) | grind)
          rw [hv, zMx_gt] at nv
          have l1 := zAb_le (c := 1000000000) (by decide) (fun q => nv (Or.inl q)) (by have := bb.1.1; (first | ((try clear T); (try clear R); (try clear h1); (try clear h2); (try clear hC); (try clear hI); (try clear hf); (try clear hn); (try clear hg); (try clear hb); (try clear ho); (try clear hw0); (try clear gw); (try clear fin); (try clear e16); (try clear main); (try clear hw1); (try clear part); (try clear elt); grind) | grind))
          have l2 := zAb_le (c := 1000000000) (by decide) (fun q => nv (Or.inr q)) (by have := bb.2.1; (first | ((try clear T); (try clear R); (try clear h1); (try clear h2); (try clear hC); (try clear hI); (try clear hf); (try clear hn); (try clear hg); (try clear hb); (try clear ho); (try clear hw0); (try clear gw); (try clear fin); (try clear e16); (try clear main); (try clear hw1); (try clear part); (try clear elt); grind) | grind))
          refine fin 0 u.1 u.2 r0.symm elt (fun _ => ⟨?_, ?_⟩) _ (fun j j1 => ?_) ho
          · rw [eu1, r1, zHd_in ⟨by have := l1.1; (first | ((try clear T); (try clear R); (try clear h1); (try clear h2); (try clear hC); (try clear hI); (try clear hf); (try clear hn); (try clear hg); (try clear hb); (try clear ho); (try clear hw0); (try clear gw); (try clear fin); (try clear e16); (try clear main); (try clear hw1); (try clear part); (try clear elt); grind) | grind), by have := l1.2; (first | ((try clear T); (try clear R); (try clear h1); (try clear h2); (try clear hC); (try clear hI); (try clear hf); (try clear hn); (try clear hg); (try clear hb); (try clear ho); (try clear hw0); (try clear gw); (try clear fin); (try clear e16); (try clear main); (try clear hw1); (try clear part); (try clear elt); grind) | grind)⟩]
          · rw [eu2, r2, zHd_in ⟨by have := l2.1; (first | ((try clear T); (try clear R); (try clear h1); (try clear h2); (try clear hC); (try clear hI); (try clear hf); (try clear hn); (try clear hg); (try clear hb); (try clear ho); (try clear hw0); (try clear gw); (try clear fin); (try clear e16); (try clear main); (try clear hw1); (try clear part); (try clear elt); grind) | grind), by have := l2.2; (first | ((try clear T); (try clear R); (try clear h1); (try clear h2); (try clear hC); (try clear hI); (try clear hf); (try clear hn); (try clear hg); (try clear hb); (try clear ho); (try clear hw0); (try clear gw); (try clear fin); (try clear e16); (try clear main); (try clear hw1); (try clear part); (try clear elt); grind) | grind)⟩]
          · rw [zup H1 j1, zup H1 j1]
            by_cases t : j = k
            · rw [if_pos t, if_pos t]; rfl
            · rw [if_neg t, if_neg t, if_neg t]
        · rw [if_neg (fun q => w ((lg_cmp_le _ _).mp q))] at ho
          have yw : 1000000000 < zMx (zAb (rlo k.toNatClampNeg)) (zAb (rhi k.toNatClampNeg)) := gt.mp (by (first | ((try clear T); (try clear R); (try clear h1); (try clear h2); (try clear hC); (try clear hI); (try clear hf); (try clear hn); (try clear hg); (try clear hb); (try clear ho); (try clear hw0); (try clear gw); (try clear fin); (try clear e16); (try clear main); (try clear hw1); (try clear part); (try clear elt); grind) | grind))
          have r1' : rwd k.toNatClampNeg = 1 := by
            rcases r3 with ⟨u1, _⟩ | ⟨_, u2⟩
            · exact u1
            · exact absurd (Or.inl yw) u2
          refine fin 1 u.1 u.2 r1'.symm elt (fun q => ?_) _ (fun j j1 => ?_) ho
          · rw [r1'] at q; exact absurd q (by decide)
          · rw [zup H1 j1, zup H1 j1]
            by_cases t : j = k
            · rw [if_pos t, if_pos t]; rfl
            · rw [if_neg t, if_neg t, if_neg t]
  · rw [if_pos (by rw [zif1]; exact c)] at h1 h2
    rw [← Option.some.inj h1, ← Option.some.inj h2]
/-! what task() keeps, what it lays -/
theorem zTN_stay {cF cc cN inp : Int32} {nF nN stp mst prc al made amt op fx jn lets : Nat → Int32} {mF mN mNF mNN mS mM mC mW mCst mO m1 m2 mX mG : Nat → Int32} {mA mB : Nat → Int64} {a1 a2 a3 a4 a5 b1 b2 b3 : Int32} {r1 r2 r3 r4 r5 r6 s1 s2 : Nat → Int32} {l1 l2 : Nat → Int64} {x : Int32 × Int32 × Int32 × Int32 × Int32 × Int32 × Int32 × Int32 × Int32 × Int32 × Int32 × Int32 × Int32 × Int32 × Int32 × Int32 × Int32 × (Nat → Int32) × (Nat → Int32) × (Nat → Int32) × (Nat → Int32) × (Nat → Int32) × (Nat → Int32) × (Nat → Int32) × (Nat → Int32) × (Nat → Int32) × (Nat → Int32) × (Nat → Int32) × (Nat → Int32) × Int32 × Int32 × Int32 × (Nat → Int32) × (Nat → Int32) × (Nat → Int32) × (Nat → Int64) × (Nat → Int64) × (Nat → Int32) × (Nat → Int32) × Int32 × Int32 × Int32 × Int32 × Int32 × (Nat → Int32)} {y : Int32 × Int32 × Int32 × Int64 × Int32 × Int32 × Int32 × Int32 × Int32 × Int32 × Int32 × Int32 × Int32 × Int32 × (Nat → Int32) × (Nat → Int32) × (Nat → Int32) × (Nat → Int32) × (Nat → Int32) × (Nat → Int32) × (Nat → Int32) × (Nat → Int32) × (Nat → Int32) × (Nat → Int32) × (Nat → Int32) × (Nat → Int32) × (Nat → Int32) × (Nat → Int32) × (Nat → Int64) × (Nat → Int64) × (Nat → Int32) × (Nat → Int32)} (T : zTN cF cc cN inp nF nN stp mst prc al made amt op fx jn lets mF mN mNF mNN mS mM mC mW mCst mO m1 m2 mX mG mA mB) (Q : zTQ a1 a2 a3 a4 a5 r1 r2 r3 r4 r5 r6 l1 l2 b1 b2 b3 s1 s2 mF mN mNF mNN mS mM mC mW mCst mO m1 m2 mX mG mA mB x y) (e : x.2.2.1 = 0) : zTN cF cc cN inp nF nN stp mst prc al made amt op fx jn lets y.2.2.2.2.2.2.2.2.2.2.2.2.2.2.1 y.2.2.2.2.2.2.2.2.2.2.2.2.2.2.2.1 y.2.2.2.2.2.2.2.2.2.2.2.2.2.2.2.2.2.1 y.2.2.2.2.2.2.2.2.2.2.2.2.2.2.2.2.2.2.1 y.2.2.2.2.2.2.2.2.2.2.2.2.2.2.2.2.2.2.2.1 y.2.2.2.2.2.2.2.2.2.2.2.2.2.2.2.2.2.2.2.2.1 y.2.2.2.2.2.2.2.2.2.2.2.2.2.2.2.2.2.2.2.2.2.1 y.2.2.2.2.2.2.2.2.2.2.2.2.2.2.2.2.2.2.2.2.2.2.1 y.2.2.2.2.2.2.2.2.2.2.2.2.2.2.2.2.1 y.2.2.2.2.2.2.2.2.2.2.2.2.2.2.2.2.2.2.2.2.2.2.2.1 y.2.2.2.2.2.2.2.2.2.2.2.2.2.2.2.2.2.2.2.2.2.2.2.2.1 y.2.2.2.2.2.2.2.2.2.2.2.2.2.2.2.2.2.2.2.2.2.2.2.2.2.1 y.2.2.2.2.2.2.2.2.2.2.2.2.2.2.2.2.2.2.2.2.2.2.2.2.2.2.1 y.2.2.2.2.2.2.2.2.2.2.2.2.2.2.2.2.2.2.2.2.2.2.2.2.2.2.2.1 y.2.2.2.2.2.2.2.2.2.2.2.2.2.2.2.2.2.2.2.2.2.2.2.2.2.2.2.2.1 y.2.2.2.2.2.2.2.2.2.2.2.2.2.2.2.2.2.2.2.2.2.2.2.2.2.2.2.2.2.1 := by
  rcases Q with q | q
  · exact zTN_fr T q.2.2.1
  · exact absurd (q.1.symm.trans e) (by decide)
theorem zTN_swap {mF mN mNF mNN mS mM mC mW mCst mO m1 m2 mX mG : Nat → Int32} {mA mB : Nat → Int64} {a1 a2 a3 a4 a5 b1 b2 b3 : Int32} {r1 r2 r3 r4 r5 r6 s1 s2 : Nat → Int32} {l1 l2 : Nat → Int64} {x : Int32 × Int32 × Int32 × Int32 × Int32 × Int32 × Int32 × Int32 × Int32 × Int32 × Int32 × Int32 × Int32 × Int32 × Int32 × Int32 × Int32 × (Nat → Int32) × (Nat → Int32) × (Nat → Int32) × (Nat → Int32) × (Nat → Int32) × (Nat → Int32) × (Nat → Int32) × (Nat → Int32) × (Nat → Int32) × (Nat → Int32) × (Nat → Int32) × (Nat → Int32) × Int32 × Int32 × Int32 × (Nat → Int32) × (Nat → Int32) × (Nat → Int32) × (Nat → Int64) × (Nat → Int64) × (Nat → Int32) × (Nat → Int32) × Int32 × Int32 × Int32 × Int32 × Int32 × (Nat → Int32)} {y : Int32 × Int32 × Int32 × Int64 × Int32 × Int32 × Int32 × Int32 × Int32 × Int32 × Int32 × Int32 × Int32 × Int32 × (Nat → Int32) × (Nat → Int32) × (Nat → Int32) × (Nat → Int32) × (Nat → Int32) × (Nat → Int32) × (Nat → Int32) × (Nat → Int32) × (Nat → Int32) × (Nat → Int32) × (Nat → Int32) × (Nat → Int32) × (Nat → Int32) × (Nat → Int32) × (Nat → Int64) × (Nat → Int64) × (Nat → Int32) × (Nat → Int32)} (Q : zTQ a1 a2 a3 a4 a5 r1 r2 r3 r4 r5 r6 l1 l2 b1 b2 b3 s1 s2 mF mN mNF mNN mS mM mC mW mCst mO m1 m2 mX mG mA mB x y) (e : x.2.2.1 = 1) : zTN x.2.2.2.2.2.2.2.1 x.2.2.2.2.2.2.2.2.1 x.2.2.2.2.2.2.2.2.2.1 x.2.2.2.2.2.2.2.2.2.2.1 x.2.2.2.2.2.2.2.2.2.2.2.2.2.2.2.2.2.1 x.2.2.2.2.2.2.2.2.2.2.2.2.2.2.2.2.2.2.1 x.2.2.2.2.2.2.2.2.2.2.2.2.2.2.2.2.2.2.2.1 x.2.2.2.2.2.2.2.2.2.2.2.2.2.2.2.2.2.2.2.2.1 x.2.2.2.2.2.2.2.2.2.2.2.2.2.2.2.2.2.2.2.2.2.1 x.2.2.2.2.2.2.2.2.2.2.2.2.2.2.2.2.2.2.2.2.2.2.1 x.2.2.2.2.2.2.2.2.2.2.2.2.2.2.2.2.2.2.2.2.2.2.2.1 x.2.2.2.2.2.2.2.2.2.2.2.2.2.2.2.2.2.2.2.2.2.2.2.2.1 x.2.2.2.2.2.2.2.2.2.2.2.2.2.2.2.2.2.2.2.2.2.2.2.2.2.1 x.2.2.2.2.2.2.2.2.2.2.2.2.2.2.2.2.2.2.2.2.2.2.2.2.2.2.1 x.2.2.2.2.2.2.2.2.2.2.2.2.2.2.2.2.2.2.2.2.2.2.2.2.2.2.2.1 x.2.2.2.2.2.2.2.2.2.2.2.2.2.2.2.2.2.2.2.2.2.2.2.2.2.2.2.2.1 y.2.2.2.2.2.2.2.2.2.2.2.2.2.2.1 y.2.2.2.2.2.2.2.2.2.2.2.2.2.2.2.1 y.2.2.2.2.2.2.2.2.2.2.2.2.2.2.2.2.2.1 y.2.2.2.2.2.2.2.2.2.2.2.2.2.2.2.2.2.2.1 y.2.2.2.2.2.2.2.2.2.2.2.2.2.2.2.2.2.2.2.1 y.2.2.2.2.2.2.2.2.2.2.2.2.2.2.2.2.2.2.2.2.1 y.2.2.2.2.2.2.2.2.2.2.2.2.2.2.2.2.2.2.2.2.2.1 y.2.2.2.2.2.2.2.2.2.2.2.2.2.2.2.2.2.2.2.2.2.2.1 y.2.2.2.2.2.2.2.2.2.2.2.2.2.2.2.2.1 y.2.2.2.2.2.2.2.2.2.2.2.2.2.2.2.2.2.2.2.2.2.2.2.1 y.2.2.2.2.2.2.2.2.2.2.2.2.2.2.2.2.2.2.2.2.2.2.2.2.1 y.2.2.2.2.2.2.2.2.2.2.2.2.2.2.2.2.2.2.2.2.2.2.2.2.2.1 y.2.2.2.2.2.2.2.2.2.2.2.2.2.2.2.2.2.2.2.2.2.2.2.2.2.2.1 y.2.2.2.2.2.2.2.2.2.2.2.2.2.2.2.2.2.2.2.2.2.2.2.2.2.2.2.1 y.2.2.2.2.2.2.2.2.2.2.2.2.2.2.2.2.2.2.2.2.2.2.2.2.2.2.2.2.1 y.2.2.2.2.2.2.2.2.2.2.2.2.2.2.2.2.2.2.2.2.2.2.2.2.2.2.2.2.2.1 := by
  rcases Q with q | q
  · exact absurd (q.1.symm.trans e) (by decide)
  · exact q.2.2.2.1
theorem zRk_c {G G' : Nat → Int32} (h : ∀ y : Nat, y < 14 → G' y = G y) {k : Nat} (hk : k ≤ 14) : zRk G' k = zRk G k := zct_c _ (fun j hj => by rw [h j (by omega)])
theorem z14 {i : Int32} (h0 : 0 ≤ i) (h1 : i < 14) : i.toNatClampNeg < 14 := by
  have := zcl' h0 h1
  rw [show (14 : Int32).toNatClampNeg = 14 by decide +kernel] at this
  exact this
theorem z14' {i : Int32} (h0 : 0 ≤ i) (h1 : i ≤ 14) : i.toNatClampNeg ≤ 14 := by
  have := zcle h0 h1
  rw [show (14 : Int32).toNatClampNeg = 14 by decide +kernel] at this
  exact this
theorem zFxS_c {mG mG' fx : Nat → Int32} {m j v : Int32} (hm : m ≤ 14) (h : ∀ y : Nat, y < 14 → mG' y = mG y) (H : zFxS mG fx m j v) : zFxS mG' fx m j v := by
  have e : ∀ o : Int32, 0 ≤ o → o < m → mG' o.toNatClampNeg = mG o.toNatClampNeg := fun o o0 o1 => h _ (z14 o0 (by (first | ((try clear h); (try clear H); (try clear e); grind) | grind)))
  rcases H with ⟨a1, a2⟩ | ⟨a1, o, p, b1, b2, b3, b4, b5, b6, b7⟩ | ⟨a1, ⟨o, b1, b2, b3, b4⟩, a2⟩
  · exact Or.inl ⟨a1, fun o o0 o1 o2 => a2 o o0 o1 (by rw [← e o o0 o1]; exact o2)⟩
  · exact Or.inr (Or.inl ⟨a1, o, p, b1, b2, b3, b4, by rw [e o b1 b2]; exact b5, by rw [e p b3 b4]; exact b6, b7⟩)
  · exact Or.inr (Or.inr ⟨a1, ⟨o, b1, b2, by rw [e o b1 b2]; exact b3, b4⟩, fun u u0 u1 u2 => a2 u u0 u1 (by rw [← e u u0 u1]; exact u2)⟩)
theorem zGp_c {cN gc gfr gcl : Int32} {fx jn gof gfx gld mG : Nat → Int32} {nG : Nat → Int32} (hN : 0 ≤ cN ∧ cN ≤ 14) (hg : zG0 cN jn mG) (h : ∀ y : Nat, y < 14 → nG y = mG y) (G : zGp cN gc gfr gcl gof gfx gld fx mG) : zGp cN gc gfr gcl gof gfx gld fx nG := by
  obtain ⟨⟨g1, g2, g3, g4, g5, g6⟩, g7⟩ := G
  have e : ∀ o : Int32, 0 ≤ o → o < cN → nG o.toNatClampNeg = mG o.toNatClampNeg := fun o o0 o1 => h _ (z14 o0 (by (first | ((try clear hg); (try clear h); (try clear G); (try clear e); grind) | grind)))
  have r : ∀ o : Int32, 0 ≤ o → o < cN → zRk nG o.toNatClampNeg = zRk mG o.toNatClampNeg := fun o o0 o1 => zRk_c h (z14' o0 (by (first | ((try clear hg); (try clear h); (try clear G); (try clear e); (try clear r); grind) | grind)))
  refine ⟨⟨?_, fun j j0 j1 => ?_, fun j j0 j1 j2 => ?_, g4, fun q j j0 j1 j2 => ?_, fun q => ?_⟩, g7⟩
  · rw [zRk_c h (z14' hN.1 hN.2)]; exact g1
  · obtain ⟨l1, l2, l3⟩ := hg.1 j j0 j1
    rw [e j j0 j1, r _ l1 (by (first | ((try clear hg); (try clear h); (try clear G); (try clear e); (try clear r); grind) | grind))]
    exact g2 j j0 j1
  · rw [e j j0 j1] at j2
    rw [r j j0 j1]
    exact ⟨(g3 j j0 j1 j2).1, zFxS_c hN.2 h (g3 j j0 j1 j2).2⟩
  · rw [e j j0 j1] at j2
    rw [r j j0 j1]
    exact g5 q j j0 j1 j2
  · obtain ⟨j, j0, j1, j2, j3⟩ := g6 q
    exact ⟨j, j0, j1, by rw [e j j0 j1]; exact j2, by rw [r j j0 j1]; exact j3⟩
theorem zGp_stay {cF cc cN inp : Int32} {nF nN stp mst prc al made amt op fx jn lets : Nat → Int32} {mF mN mNF mNN mS mM mC mW mCst mO m1 m2 mX mG : Nat → Int32} {mA mB : Nat → Int64} {gc gfr gcl : Int32} {gof gfx gld : Nat → Int32} {a1 a2 a3 a4 a5 b1 b2 b3 : Int32} {r1 r2 r3 r4 r5 r6 s1 s2 : Nat → Int32} {l1 l2 : Nat → Int64} {x : Int32 × Int32 × Int32 × Int32 × Int32 × Int32 × Int32 × Int32 × Int32 × Int32 × Int32 × Int32 × Int32 × Int32 × Int32 × Int32 × Int32 × (Nat → Int32) × (Nat → Int32) × (Nat → Int32) × (Nat → Int32) × (Nat → Int32) × (Nat → Int32) × (Nat → Int32) × (Nat → Int32) × (Nat → Int32) × (Nat → Int32) × (Nat → Int32) × (Nat → Int32) × Int32 × Int32 × Int32 × (Nat → Int32) × (Nat → Int32) × (Nat → Int32) × (Nat → Int64) × (Nat → Int64) × (Nat → Int32) × (Nat → Int32) × Int32 × Int32 × Int32 × Int32 × Int32 × (Nat → Int32)} {y : Int32 × Int32 × Int32 × Int64 × Int32 × Int32 × Int32 × Int32 × Int32 × Int32 × Int32 × Int32 × Int32 × Int32 × (Nat → Int32) × (Nat → Int32) × (Nat → Int32) × (Nat → Int32) × (Nat → Int32) × (Nat → Int32) × (Nat → Int32) × (Nat → Int32) × (Nat → Int32) × (Nat → Int32) × (Nat → Int32) × (Nat → Int32) × (Nat → Int32) × (Nat → Int32) × (Nat → Int64) × (Nat → Int64) × (Nat → Int32) × (Nat → Int32)} (G : zGp cN gc gfr gcl gof gfx gld fx mG) (T : zTN cF cc cN inp nF nN stp mst prc al made amt op fx jn lets mF mN mNF mNN mS mM mC mW mCst mO m1 m2 mX mG mA mB) (Q : zTQ a1 a2 a3 a4 a5 r1 r2 r3 r4 r5 r6 l1 l2 b1 b2 b3 s1 s2 mF mN mNF mNN mS mM mC mW mCst mO m1 m2 mX mG mA mB x y) (e : x.2.2.1 = 0) : zGp cN gc gfr gcl gof gfx gld fx y.2.2.2.2.2.2.2.2.2.2.2.2.2.2.2.2.2.2.2.2.2.2.2.2.2.2.2.1 := by
  rcases Q with q | q
  · obtain ⟨-, -, ⟨kF, kN, kNF, kNN, kS, kM, kC, kW, kCst, kO, k1', k2', kX, kG, kA, kB⟩, -⟩ := q
    exact zGp_c T.2.1.2 T.2.2.2.2.2.2.2.2 kG G
  · exact absurd (q.1.symm.trans e) (by decide)
theorem zSettle {cF cc cN inp : Int32} {nF nN stp mst prc al made amt op fx jn lets : Nat → Int32} {mF mN mNF mNN mS mM mC mW mCst mO m1 m2 mX mG : Nat → Int32} {mA mB : Nat → Int64} {gof gld gfx rwd : Nat → Int32} {rlo rhi : Nat → Int64} {gc gfr gcl : Int32} {gof' gld' gfx' rwd' : Nat → Int32} {rlo' rhi' : Nat → Int64} (T : zTN cF cc cN inp nF nN stp mst prc al made amt op fx jn lets mF mN mNF mNN mS mM mC mW mCst mO m1 m2 mX mG mA mB) (h : fn_X9_settle cN jn gof gld gfx fx op made amt rlo rhi rwd = some (gc, gfr, gcl, gof', gld', gfx', rlo', rhi', rwd')) : zGp cN gc gfr gcl gof' gfx' gld' fx mG ∧ zRN cN (-1) 0 op made amt rwd' rlo' rhi' := by
  obtain ⟨hF, ⟨n1, n2, n3⟩, hC, hz, hp, hI, hf, hn, hg⟩ := T
  unfold fn_X9_settle at h
  obtain ⟨g, hg', h⟩ := zb_s h
  obtain ⟨f, hf', h⟩ := zb_s h
  have e := Option.some.inj h
  simp only [Prod.mk.injEq] at e
  obtain ⟨rfl, rfl, rfl, rfl, rfl, rfl, rfl, rfl, rfl⟩ := e
  refine ⟨zGather ⟨n2, n3⟩ hg (fun i i0 i1 => ?_) hg', ?_⟩
  · obtain ⟨q1, q2, q3, q4, q5, q6, q7, q8, q9, q10, q11⟩ := hn i i0 i1
    exact q10.1
  · have := zFill ⟨n2, n3⟩ (fun i i0 i1 => zOk_of (hn i i0 i1)) hf'
    rw [show (0 : Int32).toInt64 = 0 by decide +kernel] at this
    exact this
theorem zGp_swap {mF mN mNF mNN mS mM mC mW mCst mO m1 m2 mX mG : Nat → Int32} {mA mB : Nat → Int64} {a1 a2 a3 a4 a5 b1 b2 b3 : Int32} {r1 r2 r3 r4 r5 r6 s1 s2 : Nat → Int32} {l1 l2 : Nat → Int64} {x : Int32 × Int32 × Int32 × Int32 × Int32 × Int32 × Int32 × Int32 × Int32 × Int32 × Int32 × Int32 × Int32 × Int32 × Int32 × Int32 × Int32 × (Nat → Int32) × (Nat → Int32) × (Nat → Int32) × (Nat → Int32) × (Nat → Int32) × (Nat → Int32) × (Nat → Int32) × (Nat → Int32) × (Nat → Int32) × (Nat → Int32) × (Nat → Int32) × (Nat → Int32) × Int32 × Int32 × Int32 × (Nat → Int32) × (Nat → Int32) × (Nat → Int32) × (Nat → Int64) × (Nat → Int64) × (Nat → Int32) × (Nat → Int32) × Int32 × Int32 × Int32 × Int32 × Int32 × (Nat → Int32)} {y : Int32 × Int32 × Int32 × Int64 × Int32 × Int32 × Int32 × Int32 × Int32 × Int32 × Int32 × Int32 × Int32 × Int32 × (Nat → Int32) × (Nat → Int32) × (Nat → Int32) × (Nat → Int32) × (Nat → Int32) × (Nat → Int32) × (Nat → Int32) × (Nat → Int32) × (Nat → Int32) × (Nat → Int32) × (Nat → Int32) × (Nat → Int32) × (Nat → Int32) × (Nat → Int32) × (Nat → Int64) × (Nat → Int64) × (Nat → Int32) × (Nat → Int32)} (Q : zTQ a1 a2 a3 a4 a5 r1 r2 r3 r4 r5 r6 l1 l2 b1 b2 b3 s1 s2 mF mN mNF mNN mS mM mC mW mCst mO m1 m2 mX mG mA mB x y) (e : x.2.2.1 = 1) : zGp x.2.2.2.2.2.2.2.2.2.1 x.2.2.2.2.2.2.2.2.2.2.2.2.2.2.2.2.2.2.2.2.2.2.2.2.2.2.2.2.2.1 x.2.2.2.2.2.2.2.2.2.2.2.2.2.2.2.2.2.2.2.2.2.2.2.2.2.2.2.2.2.2.1 x.2.2.2.2.2.2.2.2.2.2.2.2.2.2.2.2.2.2.2.2.2.2.2.2.2.2.2.2.2.2.2.1 x.2.2.2.2.2.2.2.2.2.2.2.2.2.2.2.2.2.2.2.2.2.2.2.2.2.2.2.2.2.2.2.2.1 x.2.2.2.2.2.2.2.2.2.2.2.2.2.2.2.2.2.2.2.2.2.2.2.2.2.2.2.2.2.2.2.2.2.2.1 x.2.2.2.2.2.2.2.2.2.2.2.2.2.2.2.2.2.2.2.2.2.2.2.2.2.2.2.2.2.2.2.2.2.1 x.2.2.2.2.2.2.2.2.2.2.2.2.2.2.2.2.2.2.2.2.2.2.2.2.2.2.1 y.2.2.2.2.2.2.2.2.2.2.2.2.2.2.2.2.2.2.2.2.2.2.2.2.2.2.2.1 := by
  rcases Q with q | q
  · exact absurd (q.1.symm.trans e) (by decide)
  · exact (zSettle q.2.2.2.1 q.2.2.2.2.1).1
theorem zRN_swap {mF mN mNF mNN mS mM mC mW mCst mO m1 m2 mX mG : Nat → Int32} {mA mB : Nat → Int64} {a1 a2 a3 a4 a5 b1 b2 b3 : Int32} {r1 r2 r3 r4 r5 r6 s1 s2 : Nat → Int32} {l1 l2 : Nat → Int64} {x : Int32 × Int32 × Int32 × Int32 × Int32 × Int32 × Int32 × Int32 × Int32 × Int32 × Int32 × Int32 × Int32 × Int32 × Int32 × Int32 × Int32 × (Nat → Int32) × (Nat → Int32) × (Nat → Int32) × (Nat → Int32) × (Nat → Int32) × (Nat → Int32) × (Nat → Int32) × (Nat → Int32) × (Nat → Int32) × (Nat → Int32) × (Nat → Int32) × (Nat → Int32) × Int32 × Int32 × Int32 × (Nat → Int32) × (Nat → Int32) × (Nat → Int32) × (Nat → Int64) × (Nat → Int64) × (Nat → Int32) × (Nat → Int32) × Int32 × Int32 × Int32 × Int32 × Int32 × (Nat → Int32)} {y : Int32 × Int32 × Int32 × Int64 × Int32 × Int32 × Int32 × Int32 × Int32 × Int32 × Int32 × Int32 × Int32 × Int32 × (Nat → Int32) × (Nat → Int32) × (Nat → Int32) × (Nat → Int32) × (Nat → Int32) × (Nat → Int32) × (Nat → Int32) × (Nat → Int32) × (Nat → Int32) × (Nat → Int32) × (Nat → Int32) × (Nat → Int32) × (Nat → Int32) × (Nat → Int32) × (Nat → Int64) × (Nat → Int64) × (Nat → Int32) × (Nat → Int32)} (Q : zTQ a1 a2 a3 a4 a5 r1 r2 r3 r4 r5 r6 l1 l2 b1 b2 b3 s1 s2 mF mN mNF mNN mS mM mC mW mCst mO m1 m2 mX mG mA mB x y) (e : x.2.2.1 = 1) : zRN x.2.2.2.2.2.2.2.2.2.1 (-1) 0 x.2.2.2.2.2.2.2.2.2.2.2.2.2.2.2.2.2.2.2.2.2.2.2.2.2.1 x.2.2.2.2.2.2.2.2.2.2.2.2.2.2.2.2.2.2.2.2.2.2.2.1 x.2.2.2.2.2.2.2.2.2.2.2.2.2.2.2.2.2.2.2.2.2.2.2.2.1 x.2.2.2.2.2.2.2.2.2.2.2.2.2.2.2.2.2.2.2.2.2.2.2.2.2.2.2.2.2.2.2.2.2.2.2.2.2.1 x.2.2.2.2.2.2.2.2.2.2.2.2.2.2.2.2.2.2.2.2.2.2.2.2.2.2.2.2.2.2.2.2.2.2.2.1 x.2.2.2.2.2.2.2.2.2.2.2.2.2.2.2.2.2.2.2.2.2.2.2.2.2.2.2.2.2.2.2.2.2.2.2.2.1 := by
  rcases Q with q | q
  · exact absurd (q.1.symm.trans e) (by decide)
  · exact (zSettle q.2.2.2.1 q.2.2.2.2.1).2
/-! before the first TASK -/
theorem zTN_0 {nF nN stp mst prc al made amt op fx jn lets : Nat → Int32} {mF mN mNF mNN mS mM mC mW mCst mO m1 m2 mX mG : Nat → Int32} {mA mB : Nat → Int64} (h1 : mF 0 = 0) (h2 : mN 0 = 0) (h3 : mCst 0 = 0) : zTN 0 0 0 0 nF nN stp mst prc al made amt op fx jn lets mF mN mNF mNN mS mM mC mW mCst mO m1 m2 mX mG mA mB := by
  have no : ∀ i : Int32, 0 ≤ i → ¬ i < 0 := fun i h q => by (first | ((try clear no); grind) | grind)
  exact ⟨⟨h1, by decide, by decide⟩, ⟨h2, by decide, by decide⟩, ⟨h3, by decide, by decide⟩, fun _ => rfl, fun q => absurd q (by decide), by rw [zn01.1]; rfl, fun i h q => absurd q (no i h), fun i h q => absurd q (no i h), fun i h q => absurd q (no i h), fun i j h q => absurd q (no i h)⟩
theorem zGp_0 {gof gfx gld fx mG : Nat → Int32} : zGp 0 0 0 0 gof gfx gld fx mG := ⟨zGi_0, by rw [zn01.1]; rfl⟩
theorem zRN_0 {op made amt rwd : Nat → Int32} {rlo rhi : Nat → Int64} : zRN 0 (-1) 0 op made amt rwd rlo rhi := fun i h q => absurd q (by grind)
/-! ERRORS: what is reckoned line by line, of both -/
theorem zl_ip3 {σ τ ρ κ : Type} {B : σ → (σ → Option ρ) → Option ρ} {D : τ → (τ → Option κ) → Option κ} {P : ρ → κ → Prop} (R : σ → τ → Prop) (hB : ∀ (s : σ) (t : τ) (k1 : σ → Option ρ) (k2 : τ → Option κ) (o1 : ρ) (o2 : κ), R s t → (∀ s t o1 o2, R s t → k1 s = some o1 → k2 t = some o2 → P o1 o2) → (∀ t o, k2 t = some o → ∃ k3, D t k3 = some o) → B s k1 = some o1 → D t k2 = some o2 → P o1 o2) : ∀ (n m : Nat) (s : σ) (t : τ) (o1 : ρ) (o2 : κ), R s t → zl B n s = some o1 → zl D m t = some o2 → P o1 o2 := by
  intro n
  induction n with
  | zero => intro m s t o1 o2 _ h _; exact (zl_0 h).elim
  | succ n ih =>
    intro m s t o1 o2 hR h1 h2
    cases m with
    | zero => exact (zl_0 h2).elim
    | succ m =>
      refine hB s t (zl B n) (zl D m) o1 o2 hR (fun s t o1 o2 hR h1 h2 => ih m s t o1 o2 hR h1 h2) (fun t o h => ?_) (zl_s rfl h1) (zl_s rfl h2)
      cases m with
      | zero => exact (zl_0 h).elim
      | succ m => exact ⟨zl D m, zl_s rfl h⟩
theorem zoL_mul {x y z : Int64} {a b : Int} (e : z = x * y) (ha : x.toInt = a) (hb : y.toInt = b) (h : -9223372036854775808 ≤ a * b ∧ a * b < 9223372036854775808) : z.toInt = a * b := by
  rw [e, Int64.toInt_mul, ha, hb, Int.bmod_def]
  generalize a * b = q at h ⊢
  split <;> omega
theorem zl0 : (0 : Int64).toInt = 0 := by decide +kernel
theorem zl1000 : (1000 : Int64).toInt = 1000 := by decide +kernel
theorem zl999 : (999 : Int64).toInt = 999 := by decide +kernel
/-- a product by 1000, rounded up -/
theorem zceil {V : Int64} (h0 : 0 ≤ V.toInt) (h1 : V.toInt ≤ 9000000000000000000) : (V + 999) / 1000 = -zFd (-V) 1000 ∧ ((V + 999) / 1000).toInt = (V.toInt + 999) / 1000 := by
  have e1 := zoL_add (x := V) (y := 999) (z := V + 999) rfl rfl zl999 (by omega)
  have e2 : ((V + 999) / 1000).toInt = (V.toInt + 999) / 1000 := by
    rw [Int64.toInt_div_of_ne_right _ _ (by decide), e1, zl1000, Int.tdiv_eq_ediv_of_nonneg (by omega)]
  have e3 : (-V).toInt = -V.toInt := by
    have := zoL_sub (x := 0) (y := V) (z := 0 - V) rfl zl0 rfl (by omega)
    rw [Int64.zero_sub] at this
    omega
  have e4 : (-V / 1000).toInt = -(V.toInt / 1000) := by
    rw [Int64.toInt_div_of_ne_right _ _ (by decide), e3, zl1000, Int.neg_tdiv, Int.tdiv_eq_ediv_of_nonneg h0]
  have e5 := zoL_mul (x := -V / 1000) (y := 1000) (z := -V / 1000 * 1000) rfl e4 zl1000 (by omega)
  have e6 := zoL_sub (x := -V) (y := -V / 1000 * 1000) (z := -V - -V / 1000 * 1000) rfl e3 e5 (by omega)
  refine ⟨?_, e2⟩
  apply Int64.toInt_inj.mp
  rw [e2]
  have neg : ∀ z : Int64, ∀ n : Int, z.toInt = n → -9223372036854775807 ≤ n → n ≤ 9223372036854775807 → (-z).toInt = -n := by
    intro z n hz hn hn2
    have := zoL_sub (x := 0) (y := z) (z := 0 - z) rfl zl0 hz (by omega)
    rw [Int64.zero_sub] at this
    omega
  unfold zFd
  by_cases c : -V - -V / 1000 * 1000 = 0
  · rw [if_pos c, neg _ _ e4 (by omega) (by omega)]
    have c' : (-V - -V / 1000 * 1000).toInt = 0 := by rw [c]; exact zl0
    omega
  · rw [if_neg c]
    have c' : ¬ (-V - -V / 1000 * 1000).toInt = 0 := fun q => c (Int64.toInt_inj.mp (by rw [q, zl0]))
    by_cases d : 0 ≤ -V
    · have d' := Int64.le_iff_toInt_le.mp d
      rw [zl0, e3] at d'
      omega
    · rw [if_neg d]
      have e7 := zoL_sub (x := -V / 1000) (y := 1) (z := -V / 1000 - 1) rfl e4 (show (1 : Int64).toInt = 1 by decide +kernel) (by omega)
      rw [neg _ _ e7 (by omega) (by omega)]
      omega
theorem zmulb {x y : Int64} {A B : Int} (hx : 0 ≤ x.toInt ∧ x.toInt ≤ A) (hy : 0 ≤ y.toInt ∧ y.toInt ≤ B) (hAB : A * B < 9223372036854775808) : 0 ≤ (x * y).toInt ∧ (x * y).toInt ≤ A * B := by
  have h1 : x.toInt * y.toInt ≤ A * B := Int.mul_le_mul hx.2 hy.2 hy.1 (by omega)
  have h2 : 0 ≤ x.toInt * y.toInt := Int.mul_nonneg hx.1 hy.1
  have h3 := zoL_mul (x := x) (y := y) (z := x * y) rfl rfl rfl ⟨by omega, by omega⟩
  omega
/-- the choice of the class by groups, what the reference tries by NUMBERS -/
noncomputable def zCh (cN cF : Int32) (gof ch mTr : Nat → Int32) : Prop := ∀ i : Int32, 0 ≤ i → i < cN → (0 ≤ gof i.toNatClampNeg ∧ gof i.toNatClampNeg < 14) ∧ ch (gof i.toNatClampNeg).toNatClampNeg = mTr i.toNatClampNeg ∧ 0 ≤ mTr i.toNatClampNeg ∧ mTr i.toNatClampNeg < cF
theorem zFmtOfP {i nP cN cF : Int32} {gof ch mTr : Nat → Int32} (hN : cN ≤ 14) (hP : nP ≤ cN) (C : zCh nP cF gof ch mTr) (hi : 0 ≤ i ∧ i < nP) : fn_X9_formatOf i cN gof ch = some (mTr i.toNatClampNeg) := by
  obtain ⟨⟨c1, c2⟩, c3, -⟩ := C i hi.1 hi.2
  unfold fn_X9_formatOf
  simp only [zj]
  rw [if_neg (by (first | ((try clear C); grind) | grind)), if_neg (by (first | ((try clear C); grind) | grind)), zg_in 14 (by decide +kernel) ⟨hi.1, by (first | ((try clear C); grind) | grind)⟩, if_neg (by (first | ((try clear C); grind) | grind)), if_neg (by (first | ((try clear C); grind) | grind)), zg_in 14 (by decide +kernel) ⟨c1, c2⟩, c3]
theorem zFmtOf {i cN cF : Int32} {gof ch mTr : Nat → Int32} (hN : cN ≤ 14) (C : zCh cN cF gof ch mTr) (hi : 0 ≤ i ∧ i < cN) : fn_X9_formatOf i cN gof ch = some (mTr i.toNatClampNeg) := zFmtOfP hN (Int32.le_refl _) C hi
theorem zStpOf {f cF : Int32} {stp : Nat → Int32} (hF : cF ≤ 4) (hf : 0 ≤ f ∧ f < cF) : fn_X9_stepOf f cF stp = some (stp f.toNatClampNeg) := by
  unfold fn_X9_stepOf
  rw [if_neg (by grind), if_neg (by grind), zg_in 4 (by decide +kernel) ⟨hf.1, by grind⟩]
theorem zMstOf {f cF : Int32} {stp : Nat → Int32} (hF : cF ≤ 4) (hf : 0 ≤ f ∧ f < cF) : fn_X9_mostOf f cF stp = some (stp f.toNatClampNeg) := by
  unfold fn_X9_mostOf
  rw [if_neg (by grind), if_neg (by grind), zg_in 4 (by decide +kernel) ⟨hf.1, by grind⟩]
theorem zDivi {s a : Int64} (hs : ¬ s = 0) : fn_X11_divides s a = some (if a - a / s * s = 0 then 1 else 0) := by
  unfold fn_X11_divides zd
  rw [if_neg (fun q => hs ((lg_cmp_eq _ _).mp q)), if_neg hs]
  by_cases c : a - a / s * s = 0
  · rw [if_pos ((lg_cmp_eq _ _).mpr c), if_pos c]
  · rw [if_neg (fun q => c ((lg_cmp_eq _ _).mp q)), if_neg c]
theorem zhf64 (s : Int32) : (s / 2).toInt64 = s.toInt64 / 2 := by
  rw [Int32.toInt64_div_of_ne_right _ _ (by decide)]
  rfl
/-- the ERROR of a WHAT behind its cast; S: the step, own: the step of the NUMBER that it is -/
noncomputable def zCe (S : Int64) (m a : Int32) (own e : Int64) : Int64 := if m = (-1) then (if a.toInt64 - a.toInt64 / S * S = 0 then 0 else S / 2) else (if own - own / S * S = 0 then e else e + S / 2)
/-- the amount of a WHAT -/
noncomputable def zAw (m a : Int32) (lo hi : Nat → Int64) : Int64 := zMx (zAb (zVal m a lo)) (zAb (zVal m a hi))
noncomputable def zEr (p : Int32) (S a b x y : Int64) : Int64 := if p = 0 then S / 2 else if p = 1 ∨ p = 2 then a + b else if p = 3 then -zFd (-(x * b + y * a + a * b)) 1000 + S / 2 + 1 else zMx a b
theorem zst0 {s : Int32} (h : 1 ≤ s) : ¬ s.toInt64 = 0 := fun q => by have := (z64_0 s).mp q; grind
theorem zCeJ {i nP cN cF p4 : Int32} {gof ch mTr stp made amt : Nat → Int32} {er : Nat → Int64} (hN : cN ≤ 14) (hP : nP ≤ cN) (hF : cF ≤ 4) (C : zCh nP cF gof ch mTr) (hi0 : 0 ≤ i ∧ i < nP) (hs : ∀ f : Int32, 0 ≤ f → f < cF → 1 ≤ stp f.toNatClampNeg) (hp : p4 = 0 ∨ p4 = 1) (hm : (-1) ≤ made (2 * i + p4).toNatClampNeg ∧ made (2 * i + p4).toNatClampNeg < i) : fn_X7_errorBehindCast i p4 cF cN gof ch stp made er amt = some (zCe (stp (mTr i.toNatClampNeg).toNatClampNeg).toInt64 (made (2 * i + p4).toNatClampNeg) (amt (2 * i + p4).toNatClampNeg) (stp (mTr (made (2 * i + p4).toNatClampNeg).toNatClampNeg).toNatClampNeg).toInt64 (er (made (2 * i + p4).toNatClampNeg).toNatClampNeg)) := by
  have hi : 0 ≤ i ∧ i < cN := ⟨hi0.1, by have := hi0.2; (first | ((try clear C); (try clear hs); grind) | grind)⟩
  obtain ⟨-, -, c4, c5⟩ := C i hi0.1 hi0.2
  have s0 := zst0 (hs _ c4 c5)
  have em : fn_X4_madeOf i p4 cN made = some (made (2 * i + p4).toNatClampNeg) := by
    rcases hp with rfl | rfl
    · exact zMade0 hN hi
    · exact zMade1 hN hi
  have ea : fn_X4_amountOf i p4 cN amt = some (amt (2 * i + p4).toNatClampNeg).toInt64 := by
    rcases hp with rfl | rfl
    · exact zAmt0 hN hi
    · exact zAmt1 hN hi
  unfold fn_X7_errorBehindCast zCe
  simp only [zj, zFmtOfP hN hP C hi0, zStpOf hF ⟨c4, c5⟩, em, ea, zDivi s0, zb_some, zhf64]
  by_cases c : made (2 * i + p4).toNatClampNeg = (-1)
  · rw [if_pos (by rw [c]; decide), if_pos c]
    by_cases d : (amt (2 * i + p4).toNatClampNeg).toInt64 - (amt (2 * i + p4).toNatClampNeg).toInt64 / (stp (mTr i.toNatClampNeg).toNatClampNeg).toInt64 * (stp (mTr i.toNatClampNeg).toNatClampNeg).toInt64 = 0
    · rw [if_pos d, if_pos d, if_neg (by decide)]
    · rw [if_neg d, if_neg d, if_pos rfl]
  · have m0 : 0 ≤ made (2 * i + p4).toNatClampNeg ∧ made (2 * i + p4).toNatClampNeg < nP := ⟨by (first | ((try clear C); (try clear hs); (try clear em); (try clear ea); grind) | grind), by have := hi0.2; (first | ((try clear C); (try clear hs); (try clear em); (try clear ea); grind) | grind)⟩
    obtain ⟨-, -, d4, d5⟩ := C _ m0.1 m0.2
    rw [if_neg (by (first | ((try clear C); (try clear hs); (try clear em); (try clear ea); grind) | grind)), if_pos hm.2, if_neg c, zFmtOfP hN hP C m0, zb_some, zStpOf hF ⟨d4, d5⟩, zb_some, zg_in 14 (by decide +kernel) ⟨m0.1, by (first | ((try clear C); (try clear hs); (try clear em); (try clear ea); grind) | grind)⟩]
    by_cases d : (stp (mTr (made (2 * i + p4).toNatClampNeg).toNatClampNeg).toNatClampNeg).toInt64 - (stp (mTr (made (2 * i + p4).toNatClampNeg).toNatClampNeg).toNatClampNeg).toInt64 / (stp (mTr i.toNatClampNeg).toNatClampNeg).toInt64 * (stp (mTr i.toNatClampNeg).toNatClampNeg).toInt64 = 0
    · rw [if_pos d, if_pos d, if_neg (by decide), Int64.add_zero]
    · rw [if_neg d, if_neg d, if_pos rfl]
theorem zMx_self (a : Int64) : zMx a a = a := by
  unfold zMx
  by_cases c : a < a
  · rw [if_pos c]
  · rw [if_neg c]
theorem zAwJ {i cN p4 : Int32} {made amt : Nat → Int32} {lo hi : Nat → Int64} (hN : cN ≤ 14) (hi' : 0 ≤ i ∧ i < cN) (hp : p4 = 0 ∨ p4 = 1) (hm : (-1) ≤ made (2 * i + p4).toNatClampNeg ∧ made (2 * i + p4).toNatClampNeg < i) : fn_X6_amountOfWhat i p4 cN made amt lo hi = some (zAw (made (2 * i + p4).toNatClampNeg) (amt (2 * i + p4).toNatClampNeg) lo hi) := by
  have em : fn_X4_madeOf i p4 cN made = some (made (2 * i + p4).toNatClampNeg) := by
    rcases hp with rfl | rfl
    · exact zMade0 hN hi'
    · exact zMade1 hN hi'
  have ea : fn_X4_amountOf i p4 cN amt = some (amt (2 * i + p4).toNatClampNeg).toInt64 := by
    rcases hp with rfl | rfl
    · exact zAmt0 hN hi'
    · exact zAmt1 hN hi'
  unfold fn_X6_amountOfWhat zAw zVal
  simp only [em, ea, zb_some]
  by_cases c : made (2 * i + p4).toNatClampNeg = (-1)
  · rw [if_pos (by rw [c]; decide), if_pos c, if_pos c, zMx_self]
    rfl
  · rw [if_neg (by (first | ((try clear em); (try clear ea); grind) | grind)), if_pos hm.2, if_neg c, if_neg c, zg_in 14 (by decide +kernel) ⟨by (first | ((try clear em); (try clear ea); grind) | grind), by (first | ((try clear em); (try clear ea); grind) | grind)⟩]
    rfl
set_option maxHeartbeats 4000000 in
theorem zErJ {i nP cN cF : Int32} {gof ch mTr stp op made amt : Nat → Int32} {er lo hi : Nat → Int64} (hN : cN ≤ 14) (hP : nP ≤ cN) (hF : cF ≤ 4) (C : zCh nP cF gof ch mTr) (hi0 : 0 ≤ i ∧ i < nP) (hs : ∀ f : Int32, 0 ≤ f → f < cF → 1 ≤ stp f.toNatClampNeg) (hk : zOk i op made)
    (hV : op i.toNatClampNeg = 3 → ∀ a b x y : Int64, a = zCe (stp (mTr i.toNatClampNeg).toNatClampNeg).toInt64 (made (2 * i + 0).toNatClampNeg) (amt (2 * i + 0).toNatClampNeg) (stp (mTr (made (2 * i + 0).toNatClampNeg).toNatClampNeg).toNatClampNeg).toInt64 (er (made (2 * i + 0).toNatClampNeg).toNatClampNeg) → b = zCe (stp (mTr i.toNatClampNeg).toNatClampNeg).toInt64 (made (2 * i + 1).toNatClampNeg) (amt (2 * i + 1).toNatClampNeg) (stp (mTr (made (2 * i + 1).toNatClampNeg).toNatClampNeg).toNatClampNeg).toInt64 (er (made (2 * i + 1).toNatClampNeg).toNatClampNeg) → x = zAw (made (2 * i + 0).toNatClampNeg) (amt (2 * i + 0).toNatClampNeg) lo hi → y = zAw (made (2 * i + 1).toNatClampNeg) (amt (2 * i + 1).toNatClampNeg) lo hi → 0 ≤ (x * b + y * a + a * b).toInt ∧ (x * b + y * a + a * b).toInt ≤ 9000000000000000000) :
    fn_X7_errorOf i cF cN gof ch stp op made er amt lo hi = some (zEr (op i.toNatClampNeg) (stp (mTr i.toNatClampNeg).toNatClampNeg).toInt64 (zCe (stp (mTr i.toNatClampNeg).toNatClampNeg).toInt64 (made (2 * i + 0).toNatClampNeg) (amt (2 * i + 0).toNatClampNeg) (stp (mTr (made (2 * i + 0).toNatClampNeg).toNatClampNeg).toNatClampNeg).toInt64 (er (made (2 * i + 0).toNatClampNeg).toNatClampNeg)) (zCe (stp (mTr i.toNatClampNeg).toNatClampNeg).toInt64 (made (2 * i + 1).toNatClampNeg) (amt (2 * i + 1).toNatClampNeg) (stp (mTr (made (2 * i + 1).toNatClampNeg).toNatClampNeg).toNatClampNeg).toInt64 (er (made (2 * i + 1).toNatClampNeg).toNatClampNeg)) (zAw (made (2 * i + 0).toNatClampNeg) (amt (2 * i + 0).toNatClampNeg) lo hi) (zAw (made (2 * i + 1).toNatClampNeg) (amt (2 * i + 1).toNatClampNeg) lo hi)) := by
  have hi' : 0 ≤ i ∧ i < cN := ⟨hi0.1, by have := hi0.2; (first | ((try clear C); (try clear hs); (try clear hk); (try clear hV); grind) | grind)⟩
  obtain ⟨-, -, c4, c5⟩ := C i hi0.1 hi0.2
  obtain ⟨k1, k2, k3, k4⟩ := hk
  unfold fn_X7_errorOf zEr
  simp only [zFmtOfP hN hP C hi0, zStpOf hF ⟨c4, c5⟩, zCeJ hN hP hF C hi0 hs (Or.inl rfl) k2, zCeJ hN hP hF C hi0 hs (Or.inr rfl) k3, zAwJ hN hi' (Or.inl rfl) k2, zAwJ hN hi' (Or.inr rfl) k3, zb_some, zhf64, zn]
  rw [zg_in 14 (by decide +kernel) ⟨hi'.1, by (first | ((try clear C); (try clear hs); (try clear hk); (try clear hV); grind) | grind)⟩]
  by_cases c0 : op i.toNatClampNeg = 0
  · rw [if_pos c0, if_pos c0]
  · rw [if_neg c0, if_neg c0]
    have hV := fun q => hV q _ _ _ _ rfl rfl rfl rfl
    generalize zCe (stp (mTr i.toNatClampNeg).toNatClampNeg).toInt64 (made (2 * i + 0).toNatClampNeg) (amt (2 * i + 0).toNatClampNeg) (stp (mTr (made (2 * i + 0).toNatClampNeg).toNatClampNeg).toNatClampNeg).toInt64 (er (made (2 * i + 0).toNatClampNeg).toNatClampNeg) = a at hV ⊢
    generalize zCe (stp (mTr i.toNatClampNeg).toNatClampNeg).toInt64 (made (2 * i + 1).toNatClampNeg) (amt (2 * i + 1).toNatClampNeg) (stp (mTr (made (2 * i + 1).toNatClampNeg).toNatClampNeg).toNatClampNeg).toInt64 (er (made (2 * i + 1).toNatClampNeg).toNatClampNeg) = b at hV ⊢
    by_cases c4 : op i.toNatClampNeg = 4
    · rw [if_pos c4, if_neg (show ¬ (op i.toNatClampNeg = 1 ∨ op i.toNatClampNeg = 2) by rw [c4]; decide), if_neg (show ¬ op i.toNatClampNeg = 3 by rw [c4]; decide)]
      rfl
    · rw [if_neg c4]
      by_cases c5 : op i.toNatClampNeg = 5
      · rw [if_pos c5, if_neg (show ¬ (op i.toNatClampNeg = 1 ∨ op i.toNatClampNeg = 2) by rw [c5]; decide), if_neg (show ¬ op i.toNatClampNeg = 3 by rw [c5]; decide)]
        rfl
      · rw [if_neg c5]
        by_cases c3 : op i.toNatClampNeg = 3
        · rw [if_pos c3, if_neg (show ¬ (op i.toNatClampNeg = 1 ∨ op i.toNatClampNeg = 2) by rw [c3]; decide), if_pos c3, (zceil (hV c3).1 (hV c3).2).1]
        · rw [if_neg c3, if_pos (show op i.toNatClampNeg = 1 ∨ op i.toNatClampNeg = 2 by (first | ((try clear C); (try clear hs); (try clear hk); grind) | grind))]
/-! the reference's -/
theorem zCeM {k s : Int32} {mTr mS m1 m2 : Nat → Int32} {er mA mB : Nat → Int64} {x : Int64} (h : fn_X12_castError k s mTr mS m1 m2 er mA mB = some x) : x = if s = 0 then (if m1 k.toNatClampNeg = (-1) then (if mA k.toNatClampNeg - mA k.toNatClampNeg / (mS (mTr k.toNatClampNeg).toNatClampNeg).toInt64 * (mS (mTr k.toNatClampNeg).toNatClampNeg).toInt64 = 0 then 0 else (mS (mTr k.toNatClampNeg).toNatClampNeg).toInt64 / 2) else (if (mS (mTr (m1 k.toNatClampNeg).toNatClampNeg).toNatClampNeg).toInt64 - (mS (mTr (m1 k.toNatClampNeg).toNatClampNeg).toNatClampNeg).toInt64 / (mS (mTr k.toNatClampNeg).toNatClampNeg).toInt64 * (mS (mTr k.toNatClampNeg).toNatClampNeg).toInt64 = 0 then er (m1 k.toNatClampNeg).toNatClampNeg else er (m1 k.toNatClampNeg).toNatClampNeg + (mS (mTr k.toNatClampNeg).toNatClampNeg).toInt64 / 2)) else (if m2 k.toNatClampNeg = (-1) then (if mB k.toNatClampNeg - mB k.toNatClampNeg / (mS (mTr k.toNatClampNeg).toNatClampNeg).toInt64 * (mS (mTr k.toNatClampNeg).toNatClampNeg).toInt64 = 0 then 0 else (mS (mTr k.toNatClampNeg).toNatClampNeg).toInt64 / 2) else (if (mS (mTr (m2 k.toNatClampNeg).toNatClampNeg).toNatClampNeg).toInt64 - (mS (mTr (m2 k.toNatClampNeg).toNatClampNeg).toNatClampNeg).toInt64 / (mS (mTr k.toNatClampNeg).toNatClampNeg).toInt64 * (mS (mTr k.toNatClampNeg).toNatClampNeg).toInt64 = 0 then er (m2 k.toNatClampNeg).toNatClampNeg else er (m2 k.toNatClampNeg).toNatClampNeg + (mS (mTr k.toNatClampNeg).toNatClampNeg).toInt64 / 2)) := by
  unfold fn_X12_castError at h
  simp only [zj, zn] at h
  obtain ⟨-, h⟩ := zg_s h
  obtain ⟨-, h⟩ := zg_s h
  by_cases c : s = 0
  · rw [if_pos c] at h ⊢
    obtain ⟨-, h⟩ := zg_s h
    by_cases d : m1 k.toNatClampNeg = (-1)
    · rw [if_pos d] at h ⊢
      rw [if_pos c] at h
      obtain ⟨-, h⟩ := zg_s h
      obtain ⟨-, h⟩ := zd_s h
      by_cases e : mA k.toNatClampNeg - mA k.toNatClampNeg / (mS (mTr k.toNatClampNeg).toNatClampNeg).toInt64 * (mS (mTr k.toNatClampNeg).toNatClampNeg).toInt64 = 0
      · rw [if_pos ((lg_cmp_eq _ _).mpr e)] at h
        rw [if_pos e]; exact (Option.some.inj h).symm
      · rw [if_neg (fun q => e ((lg_cmp_eq _ _).mp q))] at h
        rw [if_neg e]; exact (Option.some.inj h).symm
    · rw [if_neg d] at h ⊢
      obtain ⟨-, h⟩ := zg_s h
      obtain ⟨-, h⟩ := zg_s h
      obtain ⟨-, h⟩ := zd_s h
      by_cases e : (mS (mTr (m1 k.toNatClampNeg).toNatClampNeg).toNatClampNeg).toInt64 - (mS (mTr (m1 k.toNatClampNeg).toNatClampNeg).toNatClampNeg).toInt64 / (mS (mTr k.toNatClampNeg).toNatClampNeg).toInt64 * (mS (mTr k.toNatClampNeg).toNatClampNeg).toInt64 = 0
      · rw [if_pos ((lg_cmp_eq _ _).mpr e)] at h
        rw [if_pos e]; exact (Option.some.inj h).symm
      · rw [if_neg (fun q => e ((lg_cmp_eq _ _).mp q))] at h
        rw [if_neg e]; exact (Option.some.inj h).symm
  · rw [if_neg c] at h ⊢
    obtain ⟨-, h⟩ := zg_s h
    by_cases d : m2 k.toNatClampNeg = (-1)
    · rw [if_pos d] at h ⊢
      rw [if_neg c] at h
      obtain ⟨-, h⟩ := zg_s h
      obtain ⟨-, h⟩ := zd_s h
      by_cases e : mB k.toNatClampNeg - mB k.toNatClampNeg / (mS (mTr k.toNatClampNeg).toNatClampNeg).toInt64 * (mS (mTr k.toNatClampNeg).toNatClampNeg).toInt64 = 0
      · rw [if_pos ((lg_cmp_eq _ _).mpr e)] at h
        rw [if_pos e]; exact (Option.some.inj h).symm
      · rw [if_neg (fun q => e ((lg_cmp_eq _ _).mp q))] at h
        rw [if_neg e]; exact (Option.some.inj h).symm
    · rw [if_neg d] at h ⊢
      obtain ⟨-, h⟩ := zg_s h
      obtain ⟨-, h⟩ := zg_s h
      obtain ⟨-, h⟩ := zd_s h
      by_cases e : (mS (mTr (m2 k.toNatClampNeg).toNatClampNeg).toNatClampNeg).toInt64 - (mS (mTr (m2 k.toNatClampNeg).toNatClampNeg).toNatClampNeg).toInt64 / (mS (mTr k.toNatClampNeg).toNatClampNeg).toInt64 * (mS (mTr k.toNatClampNeg).toNatClampNeg).toInt64 = 0
      · rw [if_pos ((lg_cmp_eq _ _).mpr e)] at h
        rw [if_pos e]; exact (Option.some.inj h).symm
      · rw [if_neg (fun q => e ((lg_cmp_eq _ _).mp q))] at h
        rw [if_neg e]; exact (Option.some.inj h).symm
set_option maxHeartbeats 4000000 in
theorem zErM {k cF : Int32} {nN op fx al made amt lets mNN mO m1 m2 mX mW mTr mS : Nat → Int32} {mA mB er lo hi : Nat → Int64} {x : Nat → Int64} (hk : zN01 k cF nN op fx al made amt lets mNN mO m1 m2 mX mW mA mB) (h : fn_X12_laysError k mTr mS mO m1 m2 er mA mB lo hi = some x) : x = vp_updL er k.toNatClampNeg (zEr (op k.toNatClampNeg) (mS (mTr k.toNatClampNeg).toNatClampNeg).toInt64 (zCe (mS (mTr k.toNatClampNeg).toNatClampNeg).toInt64 (made (2 * k + 0).toNatClampNeg) (amt (2 * k + 0).toNatClampNeg) (mS (mTr (made (2 * k + 0).toNatClampNeg).toNatClampNeg).toNatClampNeg).toInt64 (er (made (2 * k + 0).toNatClampNeg).toNatClampNeg)) (zCe (mS (mTr k.toNatClampNeg).toNatClampNeg).toInt64 (made (2 * k + 1).toNatClampNeg) (amt (2 * k + 1).toNatClampNeg) (mS (mTr (made (2 * k + 1).toNatClampNeg).toNatClampNeg).toNatClampNeg).toInt64 (er (made (2 * k + 1).toNatClampNeg).toNatClampNeg)) (zAw (made (2 * k + 0).toNatClampNeg) (amt (2 * k + 0).toNatClampNeg) lo hi) (zAw (made (2 * k + 1).toNatClampNeg) (amt (2 * k + 1).toNatClampNeg) lo hi)) := by
  obtain ⟨q1, q2, q3, q4, q5, q6, q7, q8, q9, q10, q11, q12, q13, q14, q15, q16, q17⟩ := hk
  have h10 : ¬ (1 : Int32) = 0 := by decide
  unfold fn_X12_laysError at h
  simp only [zj, zn, zHighM] at h
  obtain ⟨-, h⟩ := zg_s h
  obtain ⟨-, h⟩ := zg_s h
  obtain ⟨-, h⟩ := zg_s h
  unfold zEr
  rw [q2]
  by_cases c0 : mO k.toNatClampNeg = 0
  · rw [if_pos c0] at h ⊢
    exact (Option.some.inj h).symm
  · rw [if_neg c0] at h ⊢
    obtain ⟨a, ha, h⟩ := zb_s h
    obtain ⟨b, hb, h⟩ := zb_s h
    have ha := zCeM ha
    have hb := zCeM hb
    rw [if_pos rfl, ← q5, q7] at ha
    rw [if_neg h10, ← q6, q8] at hb
    have ea : a = zCe (mS (mTr k.toNatClampNeg).toNatClampNeg).toInt64 (made (2 * k + 0).toNatClampNeg) (amt (2 * k + 0).toNatClampNeg) (mS (mTr (made (2 * k + 0).toNatClampNeg).toNatClampNeg).toNatClampNeg).toInt64 (er (made (2 * k + 0).toNatClampNeg).toNatClampNeg) := ha
    have eb : b = zCe (mS (mTr k.toNatClampNeg).toNatClampNeg).toInt64 (made (2 * k + 1).toNatClampNeg) (amt (2 * k + 1).toNatClampNeg) (mS (mTr (made (2 * k + 1).toNatClampNeg).toNatClampNeg).toNatClampNeg).toInt64 (er (made (2 * k + 1).toNatClampNeg).toNatClampNeg) := hb
    rw [← ea, ← eb]
    by_cases c1 : mO k.toNatClampNeg = 1
    · rw [if_pos c1] at h
      rw [if_pos (Or.inl c1)]
      obtain ⟨-, h⟩ := zg_s h
      exact (Option.some.inj h).symm
    · rw [if_neg c1] at h
      by_cases c2 : mO k.toNatClampNeg = 2
      · rw [if_pos c2] at h
        rw [if_pos (Or.inr c2)]
        obtain ⟨-, h⟩ := zg_s h
        exact (Option.some.inj h).symm
      · rw [if_neg c2] at h
        rw [if_neg (show ¬ (mO k.toNatClampNeg = 1 ∨ mO k.toNatClampNeg = 2) by rintro (q | q); exact c1 q; exact c2 q)]
        by_cases c3 : mO k.toNatClampNeg = 3
        · rw [if_pos c3] at h ⊢
          simp only [zAmo, zGre, zb_some] at h
          obtain ⟨l0, hl0, h⟩ := zb_s h
          obtain ⟨g0, hg0, h⟩ := zb_s h
          obtain ⟨l1, hl1, h⟩ := zb_s h
          obtain ⟨g1, hg1, h⟩ := zb_s h
          have hl0 := zLowM hl0
          have hg0 := zLowM hg0
          have hl1 := zLowM hl1
          have hg1 := zLowM hg1
          rw [if_pos rfl, ← q5, q7] at hl0 hg0
          rw [if_neg h10, ← q6, q8] at hl1 hg1
          rw [zFdM (by decide), zb_some] at h
          have e0 : zAw (made (2 * k + 0).toNatClampNeg) (amt (2 * k + 0).toNatClampNeg) lo hi = zMx (zAb l0) (zAb g0) := by rw [hl0, hg0]; rfl
          have e1 : zAw (made (2 * k + 1).toNatClampNeg) (amt (2 * k + 1).toNatClampNeg) lo hi = zMx (zAb l1) (zAb g1) := by rw [hl1, hg1]; rfl
          rw [e0, e1]
          exact (Option.some.inj h).symm
        · rw [if_neg c3] at h ⊢
          simp only [zGre, zb_some] at h
          exact (Option.some.inj h).symm
/-! a CHOICE that is reckoned: whether it PASSES, where it FAILS, its ERRORS -/
theorem zAb_i {x : Int64} (h : -9223372036854775808 < x.toInt) : (zAb x).toInt = x.toInt ∧ 0 ≤ x.toInt ∨ (zAb x).toInt = -x.toInt ∧ x.toInt ≤ 0 := by
  unfold zAb
  by_cases c : 0 < x
  · rw [if_pos c]
    have := Int64.lt_iff_toInt_lt.mp c
    rw [zl0] at this
    exact Or.inl ⟨rfl, by omega⟩
  · rw [if_neg c]
    have c' : ¬ (0 : Int64).toInt < x.toInt := fun q => c (Int64.lt_iff_toInt_lt.mpr q)
    rw [zl0] at c'
    have := zoL_sub (x := 0) (y := x) (z := 0 - x) rfl zl0 rfl (by omega)
    rw [Int64.zero_sub] at this
    exact Or.inr ⟨by omega, by omega⟩
theorem zMx_i (a b : Int64) : (zMx a b).toInt = a.toInt ∧ b.toInt ≤ a.toInt ∨ (zMx a b).toInt = b.toInt ∧ a.toInt ≤ b.toInt := by
  unfold zMx
  by_cases c : b < a
  · rw [if_pos c]
    have := Int64.lt_iff_toInt_lt.mp c
    exact Or.inl ⟨rfl, by omega⟩
  · rw [if_neg c]
    have c' : ¬ b.toInt < a.toInt := fun q => c (Int64.lt_iff_toInt_lt.mpr q)
    exact Or.inr ⟨rfl, by omega⟩
theorem zHd_i (x : Int64) : zHd x = x ∧ -2000000000 ≤ x.toInt ∧ x.toInt ≤ 2000000000 ∨ (zHd x).toInt = 2000000000 ∧ 2000000000 < x.toInt ∨ (zHd x).toInt = -2000000000 ∧ x.toInt < -2000000000 := by
  have e1 : (2000000000 : Int64).toInt = 2000000000 := by decide +kernel
  have e2 : (-2000000000 : Int64).toInt = -2000000000 := by decide +kernel
  unfold zHd
  by_cases c : x < 2000000000
  · rw [if_pos c]
    have h1 := Int64.lt_iff_toInt_lt.mp c
    rw [e1] at h1
    by_cases d : x < -2000000000
    · rw [if_pos d]
      have h2 := Int64.lt_iff_toInt_lt.mp d
      rw [e2] at h2
      exact Or.inr (Or.inr ⟨e2, h2⟩)
    · rw [if_neg d]
      have h2 : ¬ x.toInt < (-2000000000 : Int64).toInt := fun q => d (Int64.lt_iff_toInt_lt.mpr q)
      rw [e2] at h2
      exact Or.inl ⟨rfl, by omega, by omega⟩
  · rw [if_neg c, if_neg (by decide)]
    have h1 : ¬ x.toInt < (2000000000 : Int64).toInt := fun q => c (Int64.lt_iff_toInt_lt.mpr q)
    rw [e1] at h1
    by_cases d : x.toInt = 2000000000
    · have : x = 2000000000 := Int64.toInt_inj.mp (by rw [d, e1])
      exact Or.inl ⟨this.symm, by omega, by omega⟩
    · exact Or.inr (Or.inl ⟨e1, by omega⟩)
theorem zAm_eq {L H E : Int64} {M : Int32} (hL : -6000000000000000 ≤ L.toInt ∧ L.toInt ≤ 6000000000000000) (hH : -6000000000000000 ≤ H.toInt ∧ H.toInt ≤ 6000000000000000) (hE : 0 ≤ E.toInt ∧ E.toInt ≤ 9000000000000000) (hM : M.toInt ≤ 1000000000) : (zMx (zAb (zHd L)) (zAb (zHd H)) + E ≤ M.toInt64 ↔ zMx (zAb L) (zAb H) + E ≤ M.toInt64) ∧ (zMx (zAb L) (zAb H) + E ≤ M.toInt64 → zHd L = L ∧ zHd H = H ∧ (-1000000000 ≤ L.toInt ∧ L.toInt ≤ 1000000000) ∧ (-1000000000 ≤ H.toInt ∧ H.toInt ≤ 1000000000) ∧ E.toInt ≤ 1000000000) := by
  have a1 := zAb_i (x := L) (by omega)
  have a2 := zAb_i (x := H) (by omega)
  have m1 := zMx_i (zAb L) (zAb H)
  have s1 := zoL_add (x := zMx (zAb L) (zAb H)) (y := E) rfl rfl rfl (by omega)
  have b1 := zHd_i L
  have b2 := zHd_i H
  have c1 := zAb_i (x := zHd L) (by rcases b1 with ⟨q, _⟩ | ⟨q, _⟩ | ⟨q, _⟩ <;> (rw [q]; omega))
  have c2 := zAb_i (x := zHd H) (by rcases b2 with ⟨q, _⟩ | ⟨q, _⟩ | ⟨q, _⟩ <;> (rw [q]; omega))
  have m2 := zMx_i (zAb (zHd L)) (zAb (zHd H))
  have d1 : (zHd L).toInt = L.toInt ∧ -2000000000 ≤ L.toInt ∧ L.toInt ≤ 2000000000 ∨ (zHd L).toInt = 2000000000 ∧ 2000000000 < L.toInt ∨ (zHd L).toInt = -2000000000 ∧ L.toInt < -2000000000 := b1.imp (fun q => ⟨by rw [q.1], q.2⟩) id
  have d2 : (zHd H).toInt = H.toInt ∧ -2000000000 ≤ H.toInt ∧ H.toInt ≤ 2000000000 ∨ (zHd H).toInt = 2000000000 ∧ 2000000000 < H.toInt ∨ (zHd H).toInt = -2000000000 ∧ H.toInt < -2000000000 := b2.imp (fun q => ⟨by rw [q.1], q.2⟩) id
  generalize zAb L = u1 at a1 m1 s1 ⊢
  generalize zAb H = u2 at a2 m1 s1 ⊢
  generalize zAb (zHd L) = v1 at c1 m2 ⊢
  generalize zAb (zHd H) = v2 at c2 m2 ⊢
  have bd : 0 ≤ v1.toInt ∧ v1.toInt ≤ 2000000000 ∧ 0 ≤ v2.toInt ∧ v2.toInt ≤ 2000000000 := by
    refine ⟨?_, ?_, ?_, ?_⟩ <;> omega
  have s2 := zoL_add (x := zMx v1 v2) (y := E) rfl rfl rfl (by omega)
  rw [Int64.le_iff_toInt_le, Int64.le_iff_toInt_le, s1, s2, z64_i]
  generalize (zMx u1 u2).toInt = w1 at m1 ⊢
  generalize (zMx v1 v2).toInt = w2 at m2 ⊢
  refine ⟨?_, fun q => ?_⟩
  · constructor
    · intro q; rcases d1 with d1 | d1 | d1 <;> rcases d2 with d2 | d2 | d2 <;> omega
    · intro q; rcases d1 with d1 | d1 | d1 <;> rcases d2 with d2 | d2 | d2 <;> omega
  · have k1 : -1000000000 ≤ L.toInt ∧ L.toInt ≤ 1000000000 := by omega
    have k2 : -1000000000 ≤ H.toInt ∧ H.toInt ≤ 1000000000 := by omega
    refine ⟨?_, ?_, k1, k2, by omega⟩
    · rcases b1 with ⟨e, _⟩ | ⟨_, e⟩ | ⟨_, e⟩
      · exact e
      · omega
      · omega
    · rcases b2 with ⟨e, _⟩ | ⟨_, e⟩ | ⟨_, e⟩
      · exact e
      · omega
      · omega
theorem zCe_c {S own own' e e' : Int64} {m a : Int32} (h : m = (-1) ∨ (own' = own ∧ e' = e)) : zCe S m a own' e' = zCe S m a own e := by
  unfold zCe
  rcases h with h | ⟨h1, h2⟩
  · rw [if_pos h, if_pos h]
  · rw [h1, h2]
theorem zhf_b {s : Int32} (h : 1 ≤ s ∧ s ≤ 1000000) : 0 ≤ (s.toInt64 / 2).toInt ∧ (s.toInt64 / 2).toInt ≤ 500000 := by
  have k1 := Int32.le_iff_toInt_le.mp h.1
  have k2 := Int32.le_iff_toInt_le.mp h.2
  rw [zi_1'] at k1
  rw [show (1000000 : Int32).toInt = 1000000 by decide +kernel] at k2
  rw [Int64.toInt_div_of_ne_right _ _ (by decide), z64_i, show (2 : Int64).toInt = 2 by decide +kernel, Int.tdiv_eq_ediv_of_nonneg (by omega)]
  omega
theorem zCe_b {s : Int32} {own e : Int64} {m a : Int32} (hs : 1 ≤ s ∧ s ≤ 1000000) (h : m = (-1) ∨ (0 ≤ e.toInt ∧ e.toInt ≤ 1000000000)) : 0 ≤ (zCe s.toInt64 m a own e).toInt ∧ (zCe s.toInt64 m a own e).toInt ≤ 2000000000 := by
  have hh := zhf_b hs
  unfold zCe
  by_cases c : m = (-1)
  · rw [if_pos c]
    by_cases d : a.toInt64 - a.toInt64 / s.toInt64 * s.toInt64 = 0
    · rw [if_pos d, zl0]; omega
    · rw [if_neg d]; omega
  · rw [if_neg c]
    have h := h.resolve_left c
    by_cases d : own - own / s.toInt64 * s.toInt64 = 0
    · rw [if_pos d]; omega
    · rw [if_neg d]
      have := zoL_add (x := e) (y := s.toInt64 / 2) rfl rfl rfl (by omega)
      omega
theorem zAw_b {m a : Int32} {lo hi : Nat → Int64} (ha : (-10000000) ≤ a ∧ a ≤ 10000000) (h : m = (-1) ∨ ((-1000000000 ≤ (lo m.toNatClampNeg).toInt ∧ (lo m.toNatClampNeg).toInt ≤ 1000000000) ∧ (-1000000000 ≤ (hi m.toNatClampNeg).toInt ∧ (hi m.toNatClampNeg).toInt ≤ 1000000000))) : 0 ≤ (zAw m a lo hi).toInt ∧ (zAw m a lo hi).toInt ≤ 1000000000 := by
  have k1 := Int32.le_iff_toInt_le.mp ha.1
  have k2 := Int32.le_iff_toInt_le.mp ha.2
  rw [show (-10000000 : Int32).toInt = -10000000 by decide +kernel] at k1
  rw [show (10000000 : Int32).toInt = 10000000 by decide +kernel] at k2
  have v : ∀ row : Nat → Int64, (m = (-1) ∨ (-1000000000 ≤ (row m.toNatClampNeg).toInt ∧ (row m.toNatClampNeg).toInt ≤ 1000000000)) → -1000000000 ≤ (zVal m a row).toInt ∧ (zVal m a row).toInt ≤ 1000000000 := by
    intro row hr
    unfold zVal
    by_cases c : m = (-1)
    · rw [if_pos c, z64_i]; omega
    · rw [if_neg c]; exact hr.resolve_left c
  have v1 := v lo (h.imp id (fun q => q.1))
  have v2 := v hi (h.imp id (fun q => q.2))
  have a1 := zAb_i (x := zVal m a lo) (by omega)
  have a2 := zAb_i (x := zVal m a hi) (by omega)
  have m1 := zMx_i (zAb (zVal m a lo)) (zAb (zVal m a hi))
  unfold zAw
  omega
theorem zV_b {a b x y : Int64} (ha : 0 ≤ a.toInt ∧ a.toInt ≤ 2000000000) (hb : 0 ≤ b.toInt ∧ b.toInt ≤ 2000000000) (hx : 0 ≤ x.toInt ∧ x.toInt ≤ 1000000000) (hy : 0 ≤ y.toInt ∧ y.toInt ≤ 1000000000) : 0 ≤ (x * b + y * a + a * b).toInt ∧ (x * b + y * a + a * b).toInt ≤ 8000000000000000000 := by
  have p1 := zmulb hx hb (by omega)
  have p2 := zmulb hy ha (by omega)
  have p3 := zmulb ha hb (by omega)
  have s1 := zoL_add (x := x * b) (y := y * a) (z := x * b + y * a) rfl rfl rfl (by omega)
  have s2 := zoL_add (x := x * b + y * a) (y := a * b) (z := x * b + y * a + a * b) rfl s1 rfl (by omega)
  omega
theorem zEr_b {p s : Int32} {a b x y : Int64} (hs : 1 ≤ s ∧ s ≤ 1000000) (ha : 0 ≤ a.toInt ∧ a.toInt ≤ 2000000000) (hb : 0 ≤ b.toInt ∧ b.toInt ≤ 2000000000) (hx : 0 ≤ x.toInt ∧ x.toInt ≤ 1000000000) (hy : 0 ≤ y.toInt ∧ y.toInt ≤ 1000000000) : 0 ≤ (zEr p s.toInt64 a b x y).toInt ∧ (zEr p s.toInt64 a b x y).toInt ≤ 9000000000000000 := by
  have hh := zhf_b hs
  unfold zEr
  by_cases c0 : p = 0
  · rw [if_pos c0]; omega
  · rw [if_neg c0]
    by_cases c1 : p = 1 ∨ p = 2
    · rw [if_pos c1]
      have := zoL_add (x := a) (y := b) rfl rfl rfl (by omega)
      omega
    · rw [if_neg c1]
      by_cases c3 : p = 3
      · rw [if_pos c3]
        have v := zV_b ha hb hx hy
        have z := zceil v.1 (by omega)
        rw [← z.1]
        generalize (x * b + y * a + a * b) = V at v z ⊢
        have s1 := zoL_add (x := (V + 999) / 1000) (y := s.toInt64 / 2) rfl z.2 rfl (by omega)
        have s2 := zoL_add (x := (V + 999) / 1000 + s.toInt64 / 2) (y := 1) rfl s1 (show (1 : Int64).toInt = 1 by decide +kernel) (by omega)
        omega
      · rw [if_neg c3]
        have := zMx_i a b
        omega
noncomputable def zPE (cN : Int32) (lo hi : Nat → Int64) (x : Int32 × Int32 × Int32 × (Nat → Int64)) (y : Int32 × Int32 × Int32 × (Nat → Int64) × (Nat → Int64) × (Nat → Int64)) : Prop :=
  x.1 = y.1 ∧ x.2.1 = y.2.1 ∧ x.2.2.1 = y.2.2.1 ∧ (x.1 = 1 ∧ x.2.1 = (-2) ∧ x.2.2.1 = 0 ∧ (∀ j : Int32, 0 ≤ j → j < cN → x.2.2.2 j.toNatClampNeg = y.2.2.2.2.2 j.toNatClampNeg ∧ y.2.2.2.1 j.toNatClampNeg = lo j.toNatClampNeg ∧ y.2.2.2.2.1 j.toNatClampNeg = hi j.toNatClampNeg ∧ (0 ≤ (x.2.2.2 j.toNatClampNeg).toInt ∧ (x.2.2.2 j.toNatClampNeg).toInt ≤ 1000000000) ∧ (-1000000000 ≤ (lo j.toNatClampNeg).toInt ∧ (lo j.toNatClampNeg).toInt ≤ 1000000000) ∧ (-1000000000 ≤ (hi j.toNatClampNeg).toInt ∧ (hi j.toNatClampNeg).toInt ≤ 1000000000))
  ∨ x.1 = 0 ∧ 0 ≤ x.2.1 ∧ x.2.1 < cN ∧ (x.2.2.1 = 1 ∨ x.2.2.1 = 2) ∧ (∀ j : Int32, 0 ≤ j → j ≤ x.2.1 → x.2.2.2 j.toNatClampNeg = y.2.2.2.2.2 j.toNatClampNeg))
theorem zIsAns {i cN : Int32} {al : Nat → Int32} (hN : cN ≤ 14) (hi : 0 ≤ i ∧ i < cN) : fn_X9_isAnswer i cN al = some (if al i.toNatClampNeg = (-1) then 0 else 1) := by
  unfold fn_X9_isAnswer
  rw [zHasN, zb_some, if_neg (by rw [zif1]; exact fun q => q hi), zg_in 14 (by decide +kernel) ⟨hi.1, by grind⟩]
  by_cases c : al i.toNatClampNeg = (-1)
  · rw [if_pos c, if_pos c]
  · rw [if_neg c, if_neg c]
set_option maxHeartbeats 8000000 in
theorem zPassEq {cF cc cN inp : Int32} {nF nN stp mst prc al made amt op fx jn lets gof mF mN mCst mNF mNN mS mM mC mW mO m1 m2 mX mG mTr : Nat → Int32} {mA mB mLe mGe mEr : Nat → Int64} {wn : Int32} {mb : Int64} {lo hi er0 : Nat → Int64} {ch wd : Nat → Int32} {x : Int32 × Int32 × Int32 × (Nat → Int64)} {y : Int32 × Int32 × Int32 × (Nat → Int64) × (Nat → Int64) × (Nat → Int64)} (T : zTN cF cc cN inp nF nN stp mst prc al made amt op fx jn lets mF mN mNF mNN mS mM mC mW mCst mO m1 m2 mX mG mA mB) (R : zRN cN wn mb op made amt wd lo hi) (hw : wn = (-1) ∨ op wn.toNatClampNeg = 0 ∧ 0 ≤ mb.toInt ∧ mb.toInt ≤ 10000000) (C : zCh cN cF gof ch mTr) (h1 : fn_X7_reckon cF cN gof ch stp op made er0 amt lo hi mst al = some x) (h2 : fn_X12_passes wn mb mN mO m1 m2 mLe mA mB mGe mTr mS mEr mM mW = some y) : zPE cN lo hi x y := by
  obtain ⟨⟨f1, f2, f3⟩, ⟨n1, n2, n3⟩, hC, hz, hp, hI, hf, hn, hg⟩ := T
  have hs : ∀ f : Int32, 0 ≤ f → f < cF → 1 ≤ stp f.toNatClampNeg := fun f f0 f1 => (hf f f0 f1).2.2.2.2.1.1
  unfold fn_X7_reckon at h1
  unfold fn_X12_passes at h2
  rw [zn01.1, n1] at h2
  refine zl_ip3 (P := fun x y => zPE cN lo hi x y) (fun s t => t.1 = s.1 ∧ 0 ≤ s.1 ∧ s.1 ≤ cN ∧ s.2.1 = 0 ∧ t.2.1 = (-2) ∧ t.2.2.1 = 0 ∧ (∀ j : Int32, 0 ≤ j → j < s.1 → s.2.2 j.toNatClampNeg = t.2.2.2.2.2 j.toNatClampNeg ∧ t.2.2.2.1 j.toNatClampNeg = lo j.toNatClampNeg ∧ t.2.2.2.2.1 j.toNatClampNeg = hi j.toNatClampNeg ∧ (0 ≤ (s.2.2 j.toNatClampNeg).toInt ∧ (s.2.2 j.toNatClampNeg).toInt ≤ 1000000000) ∧ (-1000000000 ≤ (lo j.toNatClampNeg).toInt ∧ (lo j.toNatClampNeg).toInt ≤ 1000000000) ∧ (-1000000000 ≤ (hi j.toNatClampNeg).toInt ∧ (hi j.toNatClampNeg).toInt ≤ 1000000000))) ?_ _ _ _ _ _ _ ?_ h1 h2
  rotate_left
  · exact ⟨rfl, (show (0 : Int32) ≤ 0 by decide), n2, rfl, rfl, rfl, fun j j0 j1 => absurd j1 (by show ¬ j < 0; (first | ((try clear T); (try clear R); (try clear C); (try clear h1); (try clear h2); (try clear hC); (try clear hI); (try clear hf); (try clear hn); (try clear hg); (try clear hs); grind) | grind))⟩
  intro s t k1 k2 o1 o2 ⟨R1, R2, R3, R4, R5, R6, R7⟩ hb hx ho1 ho2
  obtain ⟨i, rs, er⟩ := s
  obtain ⟨k, fa, fw, le, ge, em⟩ := t
  dsimp only at R1 R2 R3 R4 R5 R6 R7 ho1 ho2
  subst R1 R4 R5 R6
  by_cases c : cN ≤ k
  · rw [if_pos c] at ho1 ho2
    rw [if_pos rfl] at ho2
    have e : k = cN := by (first | ((try clear T); (try clear R); (try clear C); (try clear h1); (try clear h2); (try clear hC); (try clear hI); (try clear hf); (try clear hn); (try clear hg); (try clear hs); (try clear hb); (try clear hx); (try clear ho1); (try clear ho2); grind) | grind)
    subst e
    rw [← Option.some.inj ho1, ← Option.some.inj ho2]
    exact ⟨rfl, rfl, rfl, Or.inl ⟨rfl, rfl, rfl, R7⟩⟩
  · rw [if_neg c] at ho1 ho2
    rw [if_pos rfl] at ho2
    have hi' : 0 ≤ k ∧ k < cN := ⟨R2, by (first | ((try clear T); (try clear R); (try clear C); (try clear h1); (try clear h2); (try clear hC); (try clear hI); (try clear hf); (try clear hn); (try clear hg); (try clear hs); (try clear hb); (try clear hx); (try clear ho1); (try clear ho2); grind) | grind)⟩
    have h14 : 0 ≤ k ∧ k < 14 := ⟨R2, by (first | ((try clear T); (try clear R); (try clear C); (try clear h1); (try clear h2); (try clear hC); (try clear hI); (try clear hf); (try clear hn); (try clear hg); (try clear hs); (try clear hb); (try clear hx); (try clear ho1); (try clear ho2); grind) | grind)⟩
    have hn1 := hn k hi'.1 hi'.2
    obtain ⟨-, -, t1, t2⟩ := C k hi'.1 hi'.2
    obtain ⟨-, g2, g3, -, g5, g6, -⟩ := hf _ t1 t2
    have ok := zOk_of hn1
    obtain ⟨q1, q2, q3, q4, q5, q6, q7, q8, q9, q10, q11, q12, q13, q14, q15, q16, q17⟩ := hn k hi'.1 hi'.2
    obtain ⟨r1, r2, -⟩ := R k hi'.1 hi'.2
    -- the WHATS, in both
    have part : ∀ m : Int32, (-1) ≤ m → m < k → m = (-1) ∨ (0 ≤ m ∧ m < cN ∧ er m.toNatClampNeg = em m.toNatClampNeg ∧ le m.toNatClampNeg = lo m.toNatClampNeg ∧ ge m.toNatClampNeg = hi m.toNatClampNeg ∧ (0 ≤ (er m.toNatClampNeg).toInt ∧ (er m.toNatClampNeg).toInt ≤ 1000000000) ∧ (-1000000000 ≤ (lo m.toNatClampNeg).toInt ∧ (lo m.toNatClampNeg).toInt ≤ 1000000000) ∧ (-1000000000 ≤ (hi m.toNatClampNeg).toInt ∧ (hi m.toNatClampNeg).toInt ≤ 1000000000)) := by
      intro m m0 m1
      by_cases w : m = (-1)
      · exact Or.inl w
      · exact Or.inr ⟨by (first | ((try clear T); (try clear R); (try clear C); (try clear h1); (try clear h2); (try clear hC); (try clear hI); (try clear hf); (try clear hn); (try clear hg); (try clear hs); (try clear hb); (try clear hx); (try clear ho1); (try clear ho2); (try clear part); grind) | grind), by (first | ((try clear T); (try clear R); (try clear C); (try clear h1); (try clear h2); (try clear hC); (try clear hI); (try clear hf); (try clear hn); (try clear hg); (try clear hs); (try clear hb); (try clear hx); (try clear ho1); (try clear ho2); (try clear part); grind) | grind), R7 m (by (first | ((try clear T); (try clear R); (try clear C); (try clear h1); (try clear h2); (try clear hC); (try clear hI); (try clear hf); (try clear hn); (try clear hg); (try clear hs); (try clear hb); (try clear hx); (try clear ho1); (try clear ho2); (try clear part); grind) | grind)) m1⟩
    have pa := part _ q12.1 q12.2
    have pb := part _ q13.1 q13.2
    have eown : ∀ m : Int32, 0 ≤ m → m < cN → (mS (mTr m.toNatClampNeg).toNatClampNeg).toInt64 = (stp (mTr m.toNatClampNeg).toNatClampNeg).toInt64 := fun m m0 m1 => by
      obtain ⟨-, -, u1, u2⟩ := C m m0 m1
      rw [(hf _ u1 u2).2.1]
    generalize hS : stp (mTr k.toNatClampNeg).toNatClampNeg = S at *
    have ha := zCe_b (a := amt (2 * k + 0).toNatClampNeg) (own := (stp (mTr (made (2 * k + 0).toNatClampNeg).toNatClampNeg).toNatClampNeg).toInt64) g5 (pa.imp id (fun q => q.2.2.2.2.2.1))
    have hb' := zCe_b (a := amt (2 * k + 1).toNatClampNeg) (own := (stp (mTr (made (2 * k + 1).toNatClampNeg).toNatClampNeg).toNatClampNeg).toInt64) g5 (pb.imp id (fun q => q.2.2.2.2.2.1))
    have hxx := zAw_b q14 (pa.imp id (fun q => q.2.2.2.2.2.2))
    have hyy := zAw_b q15 (pb.imp id (fun q => q.2.2.2.2.2.2))
    have eJ := zErJ (amt := amt) (er := er) (lo := lo) (hi := hi) n3 (Int32.le_refl _) f3 C hi' hs ok (fun _ a b x y ea eb ex ey => by
      have v := zV_b (a := a) (b := b) (x := x) (y := y) (by rw [ea, hS]; exact ha) (by rw [eb, hS]; exact hb') (by rw [ex]; exact hxx) (by rw [ey]; exact hyy)
      exact ⟨v.1, by have := v.2; omega⟩)
    rw [hS] at eJ
    rw [eJ, zb_some] at ho1
    have bE := zEr_b (p := op k.toNatClampNeg) g5 ha hb' hxx hyy
    generalize hE : zEr (op k.toNatClampNeg) S.toInt64 (zCe S.toInt64 (made (2 * k + 0).toNatClampNeg) (amt (2 * k + 0).toNatClampNeg) (stp (mTr (made (2 * k + 0).toNatClampNeg).toNatClampNeg).toNatClampNeg).toInt64 (er (made (2 * k + 0).toNatClampNeg).toNatClampNeg)) (zCe S.toInt64 (made (2 * k + 1).toNatClampNeg) (amt (2 * k + 1).toNatClampNeg) (stp (mTr (made (2 * k + 1).toNatClampNeg).toNatClampNeg).toNatClampNeg).toInt64 (er (made (2 * k + 1).toNatClampNeg).toNatClampNeg)) (zAw (made (2 * k + 0).toNatClampNeg) (amt (2 * k + 0).toNatClampNeg) lo hi) (zAw (made (2 * k + 1).toNatClampNeg) (amt (2 * k + 1).toNatClampNeg) lo hi) = E at ho1 bE
    obtain ⟨-, ho1⟩ := zg_s ho1
    rw [zFmtOf n3 C hi', zb_some, zMstOf f3 ⟨t1, t2⟩, zb_some, zAmtOf h14, zb_some] at ho1
    have eE1 : vp_updL er k.toNatClampNeg E k.toNatClampNeg = E := by rw [zupL R2 R2, if_pos rfl]
    rw [eE1] at ho1
    simp only [zn, zj] at ho1
    -- the reference's line
    obtain ⟨u, hu, ho2⟩ := zb_s ho2
    obtain ⟨em', hem, ho2⟩ := zb_s ho2
    obtain ⟨am, ham, ho2⟩ := zb_s ho2
    have hu := zLaysR hn1 hu
    have hem := zErM hn1 hem
    have ham := zMostM ham
    obtain ⟨-, ho2⟩ := zg_s ho2
    obtain ⟨-, ho2⟩ := zg_s ho2
    obtain ⟨l1, l2⟩ := zLw_c (i := k) (op := op) (amt := amt) (made := made) (lo' := le) (hi' := ge) (lo := lo) (hi := hi) (pa.imp id (fun q => ⟨q.2.2.2.1, q.2.2.2.2.1⟩)) (pb.imp id (fun q => ⟨q.2.2.2.1, q.2.2.2.2.1⟩))
    rw [l1, l2] at hu
    have emore : (if k = wn ∧ op k.toNatClampNeg = 0 then mb else 0) = (if k = wn then mb else 0) := by
      by_cases w : k = wn
      · have : op k.toNatClampNeg = 0 := by
          rcases hw with v | v
          · rw [w, v] at R2; exact absurd R2 (by decide)
          · rw [w]; exact v.1
        rw [if_pos ⟨w, this⟩, if_pos w]
      · rw [if_neg w, if_neg (fun q => w q.1)]
    rw [emore] at hu
    have bmore : 0 ≤ (if k = wn then mb else (0 : Int64)).toInt ∧ (if k = wn then mb else (0 : Int64)).toInt ≤ 10000000 := by
      by_cases w : k = wn
      · rw [if_pos w]
        rcases hw with v | v
        · rw [w, v] at R2; exact absurd R2 (by decide)
        · exact v.2
      · rw [if_neg w, zl0]; omega
    have i64 : ∀ x : Int64, -1000000000 ≤ x.toInt ∧ x.toInt ≤ 1000000000 → -1000000000 ≤ x ∧ x ≤ 1000000000 := fun x hx => ⟨Int64.le_iff_toInt_le.mpr (by rw [show (-1000000000 : Int64).toInt = -1000000000 by decide +kernel]; exact hx.1), Int64.le_iff_toInt_le.mpr (by rw [show (1000000000 : Int64).toInt = 1000000000 by decide +kernel]; exact hx.2)⟩
    have bb := zLw_r hn1 (lo := lo) (hi := hi) (pa.imp id (fun q => ⟨i64 _ q.2.2.2.2.2.2.1, i64 _ q.2.2.2.2.2.2.2⟩)) (pb.imp id (fun q => ⟨i64 _ q.2.2.2.2.2.2.1, i64 _ q.2.2.2.2.2.2.2⟩))
    generalize (if k = wn then mb else (0 : Int64)) = more at hu r1 r2 bmore
    generalize hL : zLw k op made amt lo hi - more = L at hu r1
    generalize hH : zHg k op made amt lo hi + more = H at hu r2
    have e5 : (5000000000000000 : Int64).toInt = 5000000000000000 := by decide +kernel
    have e5' : (-5000000000000000 : Int64).toInt = -5000000000000000 := by decide +kernel
    have bl : -6000000000000000 ≤ L.toInt ∧ L.toInt ≤ 6000000000000000 := by
      have w1 := Int64.le_iff_toInt_le.mp bb.1.1
      have w2 := Int64.le_iff_toInt_le.mp bb.1.2
      rw [e5'] at w1
      rw [e5] at w2
      have := zoL_sub hL.symm rfl rfl (by omega)
      omega
    have bh : -6000000000000000 ≤ H.toInt ∧ H.toInt ≤ 6000000000000000 := by
      have w1 := Int64.le_iff_toInt_le.mp bb.2.1
      have w2 := Int64.le_iff_toInt_le.mp bb.2.2
      rw [e5'] at w1
      rw [e5] at w2
      have := zoL_add hH.symm rfl rfl (by omega)
      omega
    have eu1 : u.1 k.toNatClampNeg = L := by rw [hu]; show vp_updL le k.toNatClampNeg L k.toNatClampNeg = L; rw [zupL R2 R2, if_pos rfl]
    have eu2 : u.2 k.toNatClampNeg = H := by rw [hu]; show vp_updL ge k.toNatClampNeg H k.toNatClampNeg = H; rw [zupL R2 R2, if_pos rfl]
    have ejlt : ∀ j : Int32, 0 ≤ j → j < k → u.1 j.toNatClampNeg = le j.toNatClampNeg ∧ u.2 j.toNatClampNeg = ge j.toNatClampNeg := fun j j0 j1 => by
      rw [hu]
      exact ⟨by show vp_updL le k.toNatClampNeg L j.toNatClampNeg = _; rw [zupL R2 j0, if_neg (by (first | ((try clear T); (try clear R); (try clear C); (try clear h1); (try clear h2); (try clear hC); (try clear hI); (try clear hf); (try clear hn); (try clear hg); (try clear hs); (try clear hb); (try clear hx); (try clear ho1); (try clear ho2); (try clear part); (try clear eown); (try clear i64); (try clear ejlt); grind) | grind))], by show vp_updL ge k.toNatClampNeg H j.toNatClampNeg = _; rw [zupL R2 j0, if_neg (by (first | ((try clear T); (try clear R); (try clear C); (try clear h1); (try clear h2); (try clear hC); (try clear hI); (try clear hf); (try clear hn); (try clear hg); (try clear hs); (try clear hb); (try clear hx); (try clear ho1); (try clear ho2); (try clear part); (try clear eown); (try clear i64); (try clear ejlt); grind) | grind))]⟩
    have val : ∀ (m a : Int32), (-1) ≤ m → m < k → zAw m a u.1 u.2 = zAw m a lo hi := fun m a m0 m1 => by
      rcases part m m0 m1 with w | ⟨w0, _, _, w1, w2, _⟩
      · unfold zAw; rw [zVal_c (lo' := u.1) (lo := lo) (Or.inl w), zVal_c (lo' := u.2) (lo := hi) (Or.inl w)]
      · unfold zAw
        rw [zVal_c (lo' := u.1) (lo := lo) (Or.inr ((ejlt m w0 m1).1.trans w1)), zVal_c (lo' := u.2) (lo := hi) (Or.inr ((ejlt m w0 m1).2.trans w2))]
    have eS : mS (mTr k.toNatClampNeg).toNatClampNeg = S := by rw [← hS]; exact (hf _ t1 t2).2.1.symm
    have eem : em' = vp_updL em k.toNatClampNeg E := by
      rw [hem, eS, val _ _ q12.1 q12.2, val _ _ q13.1 q13.2, zCe_c (own := (stp (mTr (made (2 * k + 0).toNatClampNeg).toNatClampNeg).toNatClampNeg).toInt64) (e := er (made (2 * k + 0).toNatClampNeg).toNatClampNeg) (pa.imp id (fun q => ⟨eown _ q.1 q.2.1, q.2.2.1.symm⟩)), zCe_c (own := (stp (mTr (made (2 * k + 1).toNatClampNeg).toNatClampNeg).toNatClampNeg).toInt64) (e := er (made (2 * k + 1).toNatClampNeg).toNatClampNeg) (pb.imp id (fun q => ⟨eown _ q.1 q.2.1, q.2.2.1.symm⟩)), hE]
    have eE2 : em' k.toNatClampNeg = E := by rw [eem, zupL R2 R2, if_pos rfl]
    rw [eE2] at ho2
    rw [eu1, eu2] at ham
    have gM : (mM (mTr k.toNatClampNeg).toNatClampNeg) = mst (mTr k.toNatClampNeg).toNatClampNeg := g3.symm
    rw [gM] at ho2
    have bM : (mst (mTr k.toNatClampNeg).toNatClampNeg).toInt ≤ 1000000000 := by
      have := Int32.le_iff_toInt_le.mp g6.2
      rw [show (1000000000 : Int32).toInt = 1000000000 by decide +kernel] at this
      exact this
    obtain ⟨am1, am2⟩ := zAm_eq (M := mst (mTr k.toNatClampNeg).toNatClampNeg) bl bh bE bM
    rw [← r1, ← r2, ← ham] at am1
    rw [← ham] at am2
    -- where it fails here
    have erq : ∀ j : Int32, 0 ≤ j → j ≤ k → vp_updL er k.toNatClampNeg E j.toNatClampNeg = em' j.toNatClampNeg := by
      intro j j0 j1
      rw [eem, zupL R2 j0, zupL R2 j0]
      by_cases w : j = k
      · rw [if_pos w, if_pos w]
      · rw [if_neg w, if_neg w]; exact (R7 j j0 (by (first | ((try clear T); (try clear R); (try clear C); (try clear h1); (try clear h2); (try clear hC); (try clear hI); (try clear hf); (try clear hn); (try clear hg); (try clear hs); (try clear hb); (try clear hx); (try clear ho1); (try clear ho2); (try clear part); (try clear eown); (try clear i64); (try clear ejlt); (try clear val); (try clear erq); grind) | grind))).1
    have fail : ∀ (v : Int32), (v = 1 ∨ v = 2) → some ((0 : Int32), k, v, vp_updL er k.toNatClampNeg E) = some o1 → k2 (k + 1, k, v, u.1, u.2, em') = some o2 → zPE cN lo hi o1 o2 := by
      intro v hv w1 w2
      have v0 : ¬ v = 0 := by rcases hv with rfl | rfl <;> decide
      obtain ⟨k3, w3⟩ := hx _ _ w2
      try dsimp only at w3
      rw [if_neg v0] at w3
      have w4 : o2 = (0, k, v, u.1, u.2, em') := by
        by_cases z : cN ≤ k + 1
        · rw [if_pos z] at w3; exact (Option.some.inj w3).symm
        · rw [if_neg z, if_neg v0] at w3; exact (Option.some.inj w3).symm
      rw [← Option.some.inj w1, w4]
      exact ⟨rfl, rfl, rfl, Or.inr ⟨rfl, R2, hi'.2, hv, erq⟩⟩
    by_cases d : am + E ≤ (mst (mTr k.toNatClampNeg).toNatClampNeg).toInt64
    · rw [if_pos ((lg_cmp_le _ _).mpr (am1.mpr d)), zIsAns n3 hi', zb_some] at ho1
      rw [if_pos ((lg_cmp_le _ _).mpr d)] at ho2
      obtain ⟨-, ho2⟩ := zg_s ho2
      obtain ⟨y1, y2, y3, y4, y5⟩ := am2 d
      have go : k1 (k + 1, 0, vp_updL er k.toNatClampNeg E) = some o1 → k2 (k + 1, -2, 0, u.1, u.2, em') = some o2 → zPE cN lo hi o1 o2 := by
        intro w1 w2
        refine hb _ _ _ _ ?_ w1 w2
        refine ⟨rfl, (show 0 ≤ k + 1 by (first | ((try clear T); (try clear R); (try clear C); (try clear h1); (try clear h2); (try clear hC); (try clear hI); (try clear hf); (try clear hn); (try clear hg); (try clear hs); (try clear hb); (try clear hx); (try clear ho1); (try clear ho2); (try clear part); (try clear eown); (try clear i64); (try clear ejlt); (try clear val); (try clear erq); (try clear fail); (try clear go); grind) | grind)), (show k + 1 ≤ cN by (first | ((try clear T); (try clear R); (try clear C); (try clear h1); (try clear h2); (try clear hC); (try clear hI); (try clear hf); (try clear hn); (try clear hg); (try clear hs); (try clear hb); (try clear hx); (try clear ho1); (try clear ho2); (try clear part); (try clear eown); (try clear i64); (try clear ejlt); (try clear val); (try clear erq); (try clear fail); (try clear go); grind) | grind)), rfl, rfl, rfl, fun j j0 j1 => ?_⟩
        have j1 : j < k + 1 := j1
        show vp_updL er k.toNatClampNeg E j.toNatClampNeg = em' j.toNatClampNeg ∧ u.1 j.toNatClampNeg = lo j.toNatClampNeg ∧ u.2 j.toNatClampNeg = hi j.toNatClampNeg ∧ (0 ≤ (vp_updL er k.toNatClampNeg E j.toNatClampNeg).toInt ∧ (vp_updL er k.toNatClampNeg E j.toNatClampNeg).toInt ≤ 1000000000) ∧ _ ∧ _
        refine ⟨erq j j0 (by (first | ((try clear T); (try clear R); (try clear C); (try clear h1); (try clear h2); (try clear hC); (try clear hI); (try clear hf); (try clear hn); (try clear hg); (try clear hs); (try clear hb); (try clear hx); (try clear ho1); (try clear ho2); (try clear part); (try clear eown); (try clear i64); (try clear ejlt); (try clear val); (try clear erq); (try clear fail); (try clear go); grind) | grind)), ?_⟩
        by_cases w : j = k
        · subst w
          rw [eu1, eu2, zupL R2 j0, if_pos rfl, r1, r2, y1, y2]
          exact ⟨rfl, rfl, ⟨bE.1, y5⟩, y3, y4⟩
        · have lt : j < k := by (first | ((try clear T); (try clear R); (try clear C); (try clear h1); (try clear h2); (try clear hC); (try clear hI); (try clear hf); (try clear hn); (try clear hg); (try clear hs); (try clear hb); (try clear hx); (try clear ho1); (try clear ho2); (try clear part); (try clear eown); (try clear i64); (try clear ejlt); (try clear val); (try clear erq); (try clear fail); (try clear go); grind) | grind)
          rw [(ejlt j j0 lt).1, (ejlt j j0 lt).2, zupL R2 j0, if_neg w]
          exact (R7 j j0 lt).2
      rw [q4] at ho1
      have e00 : (0 : Int32) ≤ 0 := by decide
      have e10 : ¬ (1 : Int32) = 0 := by decide
      by_cases e : mW k.toNatClampNeg = (-1)
      · rw [if_pos e, if_pos rfl, if_pos trivial] at ho1
        rw [if_pos e, if_pos e00] at ho2
        exact go ho1 ho2
      · rw [if_neg e, if_neg e10] at ho1
        rw [if_neg e] at ho2
        by_cases w : E ≤ (mW k.toNatClampNeg).toInt64
        · rw [if_pos ((lg_cmp_le _ _).mpr w), if_pos trivial] at ho1
          rw [if_pos ((lg_cmp_le _ _).mpr w), if_pos e00] at ho2
          exact go ho1 ho2
        · rw [if_neg (fun q => w ((lg_cmp_le _ _).mp q)), if_neg (by decide)] at ho1
          rw [if_neg (fun q => w ((lg_cmp_le _ _).mp q))] at ho2
          exact fail 2 (Or.inr rfl) ho1 ho2
    · rw [if_neg (fun q => d (am1.mp ((lg_cmp_le _ _).mp q))), if_neg (by decide)] at ho1
      rw [if_neg (fun q => d ((lg_cmp_le _ _).mp q))] at ho2
      exact fail 1 (Or.inl rfl) ho1 ho2
/-! COSTS and casts; the CHOICE at hand -/
theorem zRN_1 {cN : Int32} {a b : Int64} {op made amt rwd : Nat → Int32} {rlo rhi : Nat → Int64} (h : zRN cN (-1) a op made amt rwd rlo rhi) : zRN cN (-1) b op made amt rwd rlo rhi := by
  intro i i0 i1
  obtain ⟨h1, h2, h3⟩ := h i i0 i1
  have ne : ¬ i = (-1) := by (first | ((try clear h); grind) | grind)
  rw [if_neg ne] at h1 h2
  exact ⟨by rw [if_neg ne]; exact h1, by rw [if_neg ne]; exact h2, h3⟩
noncomputable def zCas (t : Nat → Int32) (i m : Int32) : Int32 := if m = (-1) then 0 else if t m.toNatClampNeg = t i.toNatClampNeg then 0 else 1
theorem zCastM {k m x : Int32} {t : Nat → Int32} (h : fn_X12_isCast k m t = some x) : x = zCas t k m := by
  unfold fn_X12_isCast at h
  unfold zCas
  by_cases c : m = (-1)
  · rw [if_pos c] at h ⊢
    exact (Option.some.inj h).symm
  · rw [if_neg c] at h ⊢
    obtain ⟨-, h⟩ := zg_s h
    obtain ⟨-, h⟩ := zg_s h
    by_cases d : t m.toNatClampNeg = t k.toNatClampNeg
    · rw [if_pos d] at h ⊢
      exact (Option.some.inj h).symm
    · rw [if_neg d] at h ⊢
      exact (Option.some.inj h).symm
theorem zCas_01 (t : Nat → Int32) (i m : Int32) : zCas t i m = 0 ∨ zCas t i m = 1 := by
  unfold zCas
  by_cases c : m = (-1)
  · rw [if_pos c]; exact Or.inl rfl
  · rw [if_neg c]
    by_cases d : t m.toNatClampNeg = t i.toNatClampNeg
    · rw [if_pos d]; exact Or.inl rfl
    · rw [if_neg d]; exact Or.inr rfl
set_option maxHeartbeats 4000000 in
theorem zCastsEq {cF cc cN inp : Int32} {nF nN stp mst prc al made amt op fx jn lets gof mF mN mCst mNF mNN mS mM mC mW mO m1 m2 mX mG mTr : Nat → Int32} {mA mB : Nat → Int64} {ch : Nat → Int32} {x y : Int32} (T : zTN cF cc cN inp nF nN stp mst prc al made amt op fx jn lets mF mN mNF mNN mS mM mC mW mCst mO m1 m2 mX mG mA mB) (C : zCh cN cF gof ch mTr) (h1 : fn_X9_castsOf cN made gof ch = some x) (h2 : fn_X12_castsTried mN m1 mTr m2 = some y) : x = y := by
  obtain ⟨hF, ⟨n1, n2, n3⟩, hC, hz, hp, hI, hf, hn, hg⟩ := T
  unfold fn_X9_castsOf at h1
  unfold fn_X12_castsTried at h2
  rw [zn01.1, n1] at h2
  refine zl_ip2 (P := fun x y => x = y) (fun s t => t = s ∧ 0 ≤ s.2 ∧ s.2 ≤ cN) ?_ _ _ _ _ _ _ ?_ h1 h2
  rotate_left
  · exact ⟨rfl, (show (0 : Int32) ≤ 0 by decide), n2⟩
  intro s t k1 k2 o1 o2 ⟨R1, R2, R3⟩ hb ho1 ho2
  subst R1
  obtain ⟨c, i⟩ := t
  dsimp only at R2 R3 ho1 ho2
  by_cases d : cN ≤ i
  · rw [if_pos d] at ho1 ho2
    rw [← Option.some.inj ho1, ← Option.some.inj ho2]
  · rw [if_neg d] at ho1 ho2
    have hi : 0 ≤ i ∧ i < cN := ⟨R2, by (first | ((try clear T); (try clear C); (try clear h1); (try clear h2); (try clear hC); (try clear hI); (try clear hf); (try clear hn); (try clear hg); (try clear hb); (try clear ho1); (try clear ho2); grind) | grind)⟩
    obtain ⟨q1, q2, q3, q4, q5, q6, q7, q8, q9, q10, q11, q12, q13, q14⟩ := hn i hi.1 hi.2
    obtain ⟨-, ho2⟩ := zg_s ho2
    obtain ⟨a, ha, ho2⟩ := zb_s ho2
    have ha := zCastM ha
    rw [← q5] at ha
    simp only [zj] at ho2
    -- the reference: both at once
    have ho2 : ∃ b, b = zCas mTr i (made (2 * i + 1).toNatClampNeg) ∧ k2 (c + (a + b), i + 1) = some o2 := by
      rcases zCas_01 mTr i (made (2 * i + 0).toNatClampNeg) with z | z
      · rw [z] at ha
        rw [if_pos ha] at ho2
        obtain ⟨-, ho2⟩ := zg_s ho2
        obtain ⟨b, hb', ho2⟩ := zb_s ho2
        have hb' := zCastM hb'
        rw [← q6] at hb'
        refine ⟨b, hb', ?_⟩
        rcases zCas_01 mTr i (made (2 * i + 1).toNatClampNeg) with w | w
        · rw [if_pos (hb'.trans w)] at ho2
          rw [ha, hb', w]; exact ho2
        · rw [if_neg (by rw [hb', w]; decide)] at ho2
          rw [ha, hb', w]; exact ho2
      · rw [z] at ha
        rw [if_neg (by rw [ha]; decide)] at ho2
        obtain ⟨-, ho2⟩ := zg_s ho2
        obtain ⟨b, hb', ho2⟩ := zb_s ho2
        have hb' := zCastM hb'
        rw [← q6] at hb'
        refine ⟨b, hb', ?_⟩
        rcases zCas_01 mTr i (made (2 * i + 1).toNatClampNeg) with w | w
        · rw [if_pos (hb'.trans w)] at ho2
          rw [ha, hb', w]; exact ho2
        · rw [if_neg (by rw [hb', w]; decide)] at ho2
          rw [ha, hb', w]; exact ho2
    obtain ⟨b, eb, ho2⟩ := ho2
    -- the class: one side after the other
    have e1 : ∀ (v : Int32) (m : Int32), (-1) ≤ m → m < i → ∀ (kk : Int32 × Int32 → Option Int32) (s : Int32), (if m = (-1) then kk (v, s + 1) else zb (fn_X9_formatOf m cN gof ch) (fun o_10 => zb (fn_X9_formatOf i cN gof ch) (fun o_14 => if o_10 = o_14 then kk (v, s + 1) else kk (v + 1, s + 1)))) = kk (v + zCas mTr i m, s + 1) := by
      intro v m m0 m1 kk s
      unfold zCas
      by_cases w : m = (-1)
      · rw [if_pos w, if_pos w, Int32.add_zero]
      · rw [if_neg w, if_neg w, zFmtOf n3 C ⟨by (first | ((try clear T); (try clear C); (try clear h1); (try clear h2); (try clear hC); (try clear hI); (try clear hf); (try clear hn); (try clear hg); (try clear hb); (try clear ho1); (try clear ho2); (try clear e1); grind) | grind), by (first | ((try clear T); (try clear C); (try clear h1); (try clear h2); (try clear hC); (try clear hI); (try clear hf); (try clear hn); (try clear hg); (try clear hb); (try clear ho1); (try clear ho2); (try clear e1); grind) | grind)⟩, zb_some, zFmtOf n3 C hi, zb_some]
        by_cases u : mTr m.toNatClampNeg = mTr i.toNatClampNeg
        · rw [if_pos u, if_pos u, Int32.add_zero]
        · rw [if_neg u, if_neg u]
    obtain ⟨B, eB, ho1⟩ := zl_g ho1
    have ho1 := zl_s eB ho1
    try dsimp only at ho1
    rw [if_neg (by decide), zMade0 n3 hi, zb_some, e1 _ _ q12.1 q12.2] at ho1
    have ho1 := zl_s eB ho1
    try dsimp only at ho1
    rw [show (0 + 1 : Int32) = 1 by decide, if_neg (by decide), zMade1 n3 hi, zb_some, e1 _ _ q13.1 q13.2] at ho1
    have ho1 := zl_s eB ho1
    try dsimp only at ho1
    rw [if_pos (by decide), ← eb, ← ha] at ho1
    refine hb _ _ _ _ ?_ ho1 ho2
    refine ⟨?_, (show 0 ≤ i + 1 by (first | ((try clear T); (try clear C); (try clear h1); (try clear h2); (try clear hC); (try clear hI); (try clear hf); (try clear hn); (try clear hg); (try clear hb); (try clear ho1); (try clear ho2); (try clear e1); grind) | grind)), (show i + 1 ≤ cN by (first | ((try clear T); (try clear C); (try clear h1); (try clear h2); (try clear hC); (try clear hI); (try clear hf); (try clear hn); (try clear hg); (try clear hb); (try clear ho1); (try clear ho2); (try clear e1); grind) | grind))⟩
    show (c + (a + b), i + 1) = (c + a + b, i + 1)
    rw [Int32.add_assoc]
theorem zPriceEq {cF cc cN inp : Int32} {nF nN stp mst prc al made amt op fx jn lets gof mF mN mCst mNF mNN mS mM mC mW mO m1 m2 mX mG mTr : Nat → Int32} {mA mB : Nat → Int64} {ch : Nat → Int32} {x y : Int32} (T : zTN cF cc cN inp nF nN stp mst prc al made amt op fx jn lets mF mN mNF mNN mS mM mC mW mCst mO m1 m2 mX mG mA mB) (C : zCh cN cF gof ch mTr) (h1 : fn_X9_priceOf cF cc cN made gof ch prc = some x) (h2 : fn_X12_costTried mCst mN m1 mTr m2 mC = some y) : x = y := by
  have T0 := T
  obtain ⟨⟨f1, f2, f3⟩, ⟨n1, n2, n3⟩, hC, hz, hp, hI, hf, hn, hg⟩ := T
  unfold fn_X9_priceOf at h1
  unfold fn_X12_costTried at h2
  obtain ⟨a, ha, h1⟩ := zb_s h1
  obtain ⟨b, hb0, h2⟩ := zb_s h2
  have e := zCastsEq T0 C ha hb0
  subst e
  rw [zn01.1, n1, hC.1] at h2
  refine zl_ip2 (P := fun x y => x = y) (fun s t => t = s ∧ 0 ≤ s.2 ∧ s.2 ≤ cN) ?_ _ _ _ _ _ _ ?_ h1 h2
  rotate_left
  · exact ⟨rfl, (show (0 : Int32) ≤ 0 by decide), n2⟩
  intro s t k1 k2 o1 o2 ⟨R1, R2, R3⟩ hb ho1 ho2
  subst R1
  obtain ⟨c, i⟩ := t
  dsimp only at R2 R3 ho1 ho2
  by_cases d : cN ≤ i
  · rw [if_pos d] at ho1 ho2
    rw [← Option.some.inj ho1, ← Option.some.inj ho2]
  · rw [if_neg d] at ho1 ho2
    have hi : 0 ≤ i ∧ i < cN := ⟨R2, by (first | ((try clear T); (try clear C); (try clear h1); (try clear h2); (try clear hC); (try clear hI); (try clear hf); (try clear hn); (try clear hg); (try clear ha); (try clear hb0); (try clear hb); (try clear ho1); (try clear ho2); grind) | grind)⟩
    obtain ⟨-, -, t1, t2⟩ := C i hi.1 hi.2
    rw [zFmtOf n3 C hi, zb_some, zHasF, zb_some, if_neg (by rw [zif1]; exact fun q => q ⟨t1, t2⟩)] at ho1
    obtain ⟨-, ho1⟩ := zg_s ho1
    obtain ⟨-, ho2⟩ := zg_s ho2
    obtain ⟨-, ho2⟩ := zg_s ho2
    rw [(hf _ t1 t2).2.2.2.1] at ho1
    refine hb _ _ _ _ ?_ ho1 ho2
    exact ⟨rfl, (show 0 ≤ i + 1 by (first | ((try clear T); (try clear C); (try clear h1); (try clear h2); (try clear hC); (try clear hI); (try clear hf); (try clear hn); (try clear hg); (try clear ha); (try clear hb0); (try clear hb); (try clear ho1); (try clear ho2); grind) | grind)), (show i + 1 ≤ cN by (first | ((try clear T); (try clear C); (try clear h1); (try clear h2); (try clear hC); (try clear hI); (try clear hf); (try clear hn); (try clear hg); (try clear ha); (try clear hb0); (try clear hb); (try clear ho1); (try clear ho2); grind) | grind))⟩
/-- the CHOICE at hand, where there is one -/
noncomputable def zHN (cN cF gcl mHh : Int32) (gof gfx hand mH : Nat → Int32) : Prop := (0 < cN → (mHh = 1 ∧ gcl = 0 ∨ mHh = 0 ∧ ¬ gcl = 0)) ∧ (cN = 0 → mHh = 0 ∨ mHh = 1) ∧ (0 < cN → gcl = 0 → zCh cN cF gof hand mH ∧ (∀ i : Int32, 0 ≤ i → i < cN → ¬ gfx (gof i.toNatClampNeg).toNatClampNeg = (-1) → hand (gof i.toNatClampNeg).toNatClampNeg = gfx (gof i.toNatClampNeg).toNatClampNeg))
theorem zHasC {cN gcl : Int32} (hN : 0 ≤ cN) : fn_X9_hasChoice cN gcl = some (if 0 < cN ∧ gcl = 0 then 1 else 0) := by
  unfold fn_X9_hasChoice
  by_cases c : cN ≤ 0
  · rw [if_pos c, if_neg (fun q => by have := q.1; grind)]
  · rw [if_neg c]
    by_cases d : gcl = 0
    · rw [if_pos d, if_pos ⟨by grind, d⟩]
    · rw [if_neg d, if_neg (fun q => d q.2)]
theorem zIsTh {cN cF gcl mHh : Int32} {gof gfx hand mH mN : Nat → Int32} (hN : mN 0 = cN ∧ 0 ≤ cN) (H : zHN cN cF gcl mHh gof gfx hand mH) : fn_X12_isThere mHh mN = some (if 0 < cN ∧ gcl = 0 then 1 else 0) := by
  unfold fn_X12_isThere
  rw [zn01.1, hN.1]
  by_cases c : 0 < cN
  · rcases H.1 c with ⟨a1, a2⟩ | ⟨a1, a2⟩
    · rw [if_neg (by rw [a1]; decide), if_neg (by (first | ((try clear H); grind) | grind)), if_pos ⟨c, a2⟩]
    · rw [if_pos a1, if_neg (fun q => a2 q.2)]
  · have z : cN ≤ 0 := by (first | ((try clear H); grind) | grind)
    rw [if_neg (show ¬ (0 < cN ∧ gcl = 0) from fun q => c q.1)]
    by_cases d : mHh = 0
    · rw [if_pos d]
    · rw [if_neg d, if_pos z]
theorem zTrH {cN : Int32} {mN mH mTr : Nat → Int32} {x : Nat → Int32} (hN : mN 0 = cN ∧ 0 ≤ cN ∧ cN ≤ 14) (h : fn_X12_triesHand mN mH mTr = some x) : ∀ i : Int32, 0 ≤ i → i < cN → x i.toNatClampNeg = mH i.toNatClampNeg := by
  unfold fn_X12_triesHand at h
  rw [zn01.1, hN.1] at h
  refine zl_ip (P := fun x : Nat → Int32 => ∀ i : Int32, 0 ≤ i → i < cN → x i.toNatClampNeg = mH i.toNatClampNeg) (fun s => 0 ≤ s.1 ∧ s.1 ≤ cN ∧ ∀ i : Int32, 0 ≤ i → i < s.1 → s.2 i.toNatClampNeg = mH i.toNatClampNeg) ?_ _ _ _ ?_ h
  rotate_left
  · exact ⟨(show (0 : Int32) ≤ 0 by decide), hN.2.1, fun i i0 i1 => absurd i1 (by show ¬ i < 0; (first | ((try clear h); grind) | grind))⟩
  intro s back o ⟨H1, H2, H3⟩ hb ho
  obtain ⟨k, row⟩ := s
  dsimp only at H1 H2 H3 ho
  by_cases c : cN ≤ k
  · rw [if_pos c] at ho
    rw [← Option.some.inj ho]
    exact fun i i0 i1 => H3 i i0 (by (first | ((try clear h); (try clear hb); (try clear ho); grind) | grind))
  · rw [if_neg c] at ho
    obtain ⟨-, ho⟩ := zg_s ho
    refine hb _ _ ?_ ho
    refine ⟨(show 0 ≤ k + 1 by (first | ((try clear h); (try clear hb); (try clear ho); grind) | grind)), (show k + 1 ≤ cN by (first | ((try clear h); (try clear hb); (try clear ho); grind) | grind)), fun i i0 i1 => ?_⟩
    have i1 : i < k + 1 := i1
    show upd row k.toNatClampNeg (mH k.toNatClampNeg) i.toNatClampNeg = mH i.toNatClampNeg
    rw [zup H1 i0]
    by_cases q : i = k
    · rw [if_pos q, q]
    · rw [if_neg q]; exact H3 i i0 (by (first | ((try clear h); (try clear hb); (try clear ho); grind) | grind))
theorem zTrG {cN : Int32} {mN mG mTr : Nat → Int32} {g f : Int32} {x : Nat → Int32} (hN : mN 0 = cN ∧ 0 ≤ cN ∧ cN ≤ 14) (h : fn_X12_triesGroup g f mN mG mTr = some x) : ∀ i : Int32, 0 ≤ i → i < cN → x i.toNatClampNeg = if mG i.toNatClampNeg = g then f else mTr i.toNatClampNeg := by
  unfold fn_X12_triesGroup at h
  rw [zn01.1, hN.1] at h
  refine zl_ip (P := fun x : Nat → Int32 => ∀ i : Int32, 0 ≤ i → i < cN → x i.toNatClampNeg = if mG i.toNatClampNeg = g then f else mTr i.toNatClampNeg) (fun s => 0 ≤ s.1 ∧ s.1 ≤ cN ∧ (∀ i : Int32, 0 ≤ i → i < s.1 → s.2 i.toNatClampNeg = if mG i.toNatClampNeg = g then f else mTr i.toNatClampNeg) ∧ (∀ i : Int32, 0 ≤ i → s.1 ≤ i → s.2 i.toNatClampNeg = mTr i.toNatClampNeg)) ?_ _ _ _ ?_ h
  rotate_left
  · exact ⟨(show (0 : Int32) ≤ 0 by decide), hN.2.1, fun i i0 i1 => absurd i1 (by show ¬ i < 0; (first | ((try clear h); grind) | grind)), fun _ _ _ => rfl⟩
  intro s back o ⟨H1, H2, H3, H4⟩ hb ho
  obtain ⟨k, row⟩ := s
  dsimp only at H1 H2 H3 H4 ho
  by_cases c : cN ≤ k
  · rw [if_pos c] at ho
    rw [← Option.some.inj ho]
    exact fun i i0 i1 => H3 i i0 (by (first | ((try clear h); (try clear hb); (try clear ho); grind) | grind))
  · rw [if_neg c] at ho
    obtain ⟨-, ho⟩ := zg_s ho
    have nxt : ∀ v : Int32, v = (if mG k.toNatClampNeg = g then f else mTr k.toNatClampNeg) → back (k + 1, upd row k.toNatClampNeg v) = some o → ∀ i : Int32, 0 ≤ i → i < cN → o i.toNatClampNeg = if mG i.toNatClampNeg = g then f else mTr i.toNatClampNeg := by
      intro v hv hbk
      refine hb _ _ ?_ hbk
      refine ⟨(show 0 ≤ k + 1 by (first | ((try clear h); (try clear hb); (try clear ho); (try clear nxt); grind) | grind)), (show k + 1 ≤ cN by (first | ((try clear h); (try clear hb); (try clear ho); (try clear nxt); grind) | grind)), fun i i0 i1 => ?_, fun i i0 i1 => ?_⟩
      · have i1 : i < k + 1 := i1
        show upd row k.toNatClampNeg v i.toNatClampNeg = _
        rw [zup H1 i0]
        by_cases q : i = k
        · rw [if_pos q, hv, q]
        · rw [if_neg q]; exact H3 i i0 (by (first | ((try clear h); (try clear hb); (try clear ho); (try clear nxt); grind) | grind))
      · have i1 : k + 1 ≤ i := i1
        show upd row k.toNatClampNeg v i.toNatClampNeg = _
        rw [zup H1 i0, if_neg (by (first | ((try clear h); (try clear hb); (try clear ho); (try clear nxt); grind) | grind))]; exact H4 i i0 (by (first | ((try clear h); (try clear hb); (try clear ho); (try clear nxt); grind) | grind))
    by_cases d : mG k.toNatClampNeg = g
    · rw [if_pos d] at ho
      obtain ⟨-, ho⟩ := zg_s ho
      exact nxt f (by rw [if_pos d]) ho
    · rw [if_neg d] at ho
      obtain ⟨-, ho⟩ := zg_s ho
      exact nxt (row k.toNatClampNeg) (by rw [if_neg d]; exact H4 k H1 (by (first | ((try clear h); (try clear hb); (try clear ho); (try clear nxt); grind) | grind))) ho
theorem zCh_c {cN cF : Int32} {gof ch t t' : Nat → Int32} (C : zCh cN cF gof ch t) (h : ∀ i : Int32, 0 ≤ i → i < cN → t' i.toNatClampNeg = t i.toNatClampNeg) : zCh cN cF gof ch t' := by
  intro i i0 i1
  obtain ⟨c1, c2, c3, c4⟩ := C i i0 i1
  rw [h i i0 i1]
  exact ⟨c1, c2, c3, c4⟩
/-! calls that ask of the CHOICE at hand -/
theorem zHandP {cF cc cN inp gcl mHh mFa mFw : Int32} {nF nN stp mst prc al made amt op fx jn lets gof gfx rwd hand mF mN mCst mNF mNN mS mM mC mW mO m1 m2 mX mG mH mTr : Nat → Int32} {rlo rhi mA mB mLe mGe mEr : Nat → Int64} {mWb : Int64} {fa rs : Int32} {er0 : Nat → Int64} {x : Int32 × Int32 × Int32 × (Nat → Int64)} {y : Int32 × Int32 × Int32 × Int32 × (Nat → Int32) × (Nat → Int64) × (Nat → Int64) × (Nat → Int64)} (T : zTN cF cc cN inp nF nN stp mst prc al made amt op fx jn lets mF mN mNF mNN mS mM mC mW mCst mO m1 m2 mX mG mA mB) (R : zRN cN (-1) 0 op made amt rwd rlo rhi) (H : zHN cN cF gcl mHh gof gfx hand mH) (h1 : fn_X11_handPasses cF cN gcl fa rs gof hand stp op made er0 amt rlo rhi mst al = some x) (h2 : fn_X12_handPasses mWb mHh mFa mFw mN mH mTr mO m1 m2 mLe mA mB mGe mS mEr mM mW = some y) : (¬ (0 < cN ∧ gcl = 0) ∧ x.1 = 0 ∧ y.1 = 0) ∨ ((0 < cN ∧ gcl = 0) ∧ zPE cN rlo rhi x (y.1, y.2.2.1, y.2.2.2.1, y.2.2.2.2.2.1, y.2.2.2.2.2.2.1, y.2.2.2.2.2.2.2) ∧ (∀ i : Int32, 0 ≤ i → i < cN → y.2.2.2.2.1 i.toNatClampNeg = mH i.toNatClampNeg)) := by
  have hN := T.2.1
  have T0 := T
  unfold fn_X11_handPasses at h1
  unfold fn_X12_handPasses at h2
  rw [zHasC hN.2.1, zb_some] at h1
  rw [zn01.1, hN.1] at h2
  by_cases c : 0 < cN ∧ gcl = 0
  · right
    refine ⟨c, ?_⟩
    have hh : mHh = 1 := by
      rcases H.1 c.1 with ⟨a1, _⟩ | ⟨_, a2⟩
      · exact a1
      · exact absurd c.2 a2
    rw [if_neg (by rw [zif1]; exact fun q => q c)] at h1
    rw [if_neg (by rw [hh]; decide), if_neg (by have := c.1; (first | ((try clear T); (try clear R); (try clear H); (try clear h1); (try clear h2); grind) | grind))] at h2
    obtain ⟨a, ha, h1⟩ := zb_s h1
    obtain ⟨t, ht, h2⟩ := zb_s h2
    obtain ⟨b, hb, h2⟩ := zb_s h2
    have tr := zTrH hN ht
    obtain ⟨C, -⟩ := H.2.2 c.1 c.2
    have pe := zPassEq (wd := rwd) T0 (zRN_1 R) (Or.inl rfl) (zCh_c C tr) ha hb
    have ex : x = a := by
      obtain ⟨a1, a2, a3, a4⟩ := a
      rcases pe.2.2.2 with ⟨w, _⟩ | ⟨w, _⟩
      · dsimp only at w h1
        rw [if_neg (by rw [w]; decide)] at h1
        rw [← Option.some.inj h1, w]
      · dsimp only at w h1
        rw [if_pos w] at h1
        rw [← Option.some.inj h1, w]
    rw [ex, ← Option.some.inj h2]
    exact ⟨pe, tr⟩
  · left
    refine ⟨c, ?_⟩
    rw [if_pos (by rw [zif1]; exact c)] at h1
    have hy : y.1 = 0 := by
      by_cases d : mHh = 0
      · rw [if_pos d] at h2
        rw [← Option.some.inj h2]
      · rw [if_neg d] at h2
        have z : cN = 0 := by
          by_cases z : 0 < cN
          · rcases H.1 z with ⟨_, a2⟩ | ⟨a1, _⟩
            · exact absurd ⟨z, a2⟩ c
            · exact absurd a1 d
          · have := hN.2.1
            (first | ((try clear T); (try clear R); (try clear H); (try clear h1); (try clear h2); (try clear ha); (try clear ht); (try clear hb); grind) | grind)
        rw [if_pos z] at h2
        rw [← Option.some.inj h2]
    exact ⟨by rw [← Option.some.inj h1], hy⟩
theorem zeq_chosen {cF cc cN inp gcl mHh : Int32} {nF nN stp mst prc al made amt op fx jn lets gof gfx hand mF mN mCst mNF mNN mS mM mC mW mO m1 m2 mX mG mH : Nat → Int32} {mA mB : Nat → Int64} {p1 x y : Int32} (T : zTN cF cc cN inp nF nN stp mst prc al made amt op fx jn lets mF mN mNF mNN mS mM mC mW mCst mO m1 m2 mX mG mA mB) (H : zHN cN cF gcl mHh gof gfx hand mH) (h1 : fn_X11_chosen p1 cN gcl gof hand = some x) (h2 : fn_X12_chosen p1 mHh mN mH = some y) : x = y := by
  obtain ⟨hF, ⟨n1, n2, n3⟩, hC, hz, hp, hI, hf, hn, hg⟩ := T
  unfold fn_X11_chosen at h1
  unfold fn_X12_chosen at h2
  rw [zHasC n2, zb_some, zHasN, zb_some] at h1
  rw [zIsNum (by rw [n1]; exact n2), zb_some, n1] at h2
  by_cases d : 0 ≤ p1 ∧ p1 < cN
  · have c0 : 0 < cN := by (first | ((try clear T); (try clear H); (try clear h1); (try clear h2); (try clear hC); (try clear hI); (try clear hf); (try clear hn); (try clear hg); grind) | grind)
    rw [if_neg (show ¬ (if 0 ≤ p1 ∧ p1 < cN then (1 : Int32) else 0) = 0 by rw [zif1]; exact fun q => q d)] at h1 h2
    rcases H.1 c0 with ⟨a1, a2⟩ | ⟨a1, a2⟩
    · obtain ⟨C, -⟩ := H.2.2 c0 a2
      rw [if_neg (by rw [zif1]; exact fun q => q ⟨c0, a2⟩), zFmtOf n3 C d, zb_some] at h1
      rw [if_neg (by rw [a1]; decide)] at h2
      obtain ⟨-, h2⟩ := zg_s h2
      rw [← Option.some.inj h1, ← Option.some.inj h2]
    · rw [if_pos (by rw [zif1]; exact fun q => a2 q.2)] at h1
      rw [if_pos a1] at h2
      rw [← Option.some.inj h1, ← Option.some.inj h2]
  · rw [if_pos (show (if 0 ≤ p1 ∧ p1 < cN then (1 : Int32) else 0) = 0 by rw [zif1]; exact d)] at h1 h2
    have e1 : x = (-1) := by
      by_cases c : (if 0 < cN ∧ gcl = 0 then (1 : Int32) else 0) = 0
      · rw [if_pos c] at h1; exact (Option.some.inj h1).symm
      · rw [if_neg c] at h1; exact (Option.some.inj h1).symm
    have e2 : y = (-1) := by
      by_cases c : mHh = 0
      · rw [if_pos c] at h2; exact (Option.some.inj h2).symm
      · rw [if_neg c] at h2; exact (Option.some.inj h2).symm
    rw [e1, e2]
theorem zeq_cost {cF cc cN inp gcl mHh : Int32} {nF nN stp mst prc al made amt op fx jn lets gof gfx hand mF mN mCst mNF mNN mS mM mC mW mO m1 m2 mX mG mH mTr : Nat → Int32} {mA mB : Nat → Int64} {x : Int32} {y : Int32 × (Nat → Int32)} (T : zTN cF cc cN inp nF nN stp mst prc al made amt op fx jn lets mF mN mNF mNN mS mM mC mW mCst mO m1 m2 mX mG mA mB) (H : zHN cN cF gcl mHh gof gfx hand mH) (h1 : fn_X11_cost cF cc cN gcl made gof hand prc = some x) (h2 : fn_X12_cost mHh mN mH mTr mCst m1 m2 mC = some y) : x = y.1 := by
  have hN := T.2.1
  unfold fn_X11_cost at h1
  unfold fn_X12_cost at h2
  rw [zHasC hN.2.1, zb_some] at h1
  rw [zIsTh ⟨hN.1, hN.2.1⟩ H, zb_some] at h2
  by_cases c : 0 < cN ∧ gcl = 0
  · rw [if_neg (by rw [zif1]; exact fun q => q c)] at h1 h2
    obtain ⟨a, ha, h1⟩ := zb_s h1
    obtain ⟨t, ht, h2⟩ := zb_s h2
    obtain ⟨b, hb, h2⟩ := zb_s h2
    obtain ⟨C, -⟩ := H.2.2 c.1 c.2
    rw [← Option.some.inj h1, ← Option.some.inj h2]
    exact zPriceEq T (zCh_c C (zTrH hN ht)) ha hb
  · rw [if_pos (by rw [zif1]; exact c)] at h1 h2
    rw [← Option.some.inj h1, ← Option.some.inj h2]
theorem zeq_casts {cF cc cN inp gcl mHh : Int32} {nF nN stp mst prc al made amt op fx jn lets gof gfx hand mF mN mCst mNF mNN mS mM mC mW mO m1 m2 mX mG mH mTr : Nat → Int32} {mA mB : Nat → Int64} {x : Int32} {y : Int32 × (Nat → Int32)} (T : zTN cF cc cN inp nF nN stp mst prc al made amt op fx jn lets mF mN mNF mNN mS mM mC mW mCst mO m1 m2 mX mG mA mB) (H : zHN cN cF gcl mHh gof gfx hand mH) (h1 : fn_X11_casts cN gcl made gof hand = some x) (h2 : fn_X12_casts mHh mN mH mTr m1 m2 = some y) : x = y.1 := by
  have hN := T.2.1
  unfold fn_X11_casts at h1
  unfold fn_X12_casts at h2
  rw [zHasC hN.2.1, zb_some] at h1
  rw [zIsTh ⟨hN.1, hN.2.1⟩ H, zb_some] at h2
  by_cases c : 0 < cN ∧ gcl = 0
  · rw [if_neg (by rw [zif1]; exact fun q => q c)] at h1 h2
    obtain ⟨a, ha, h1⟩ := zb_s h1
    obtain ⟨t, ht, h2⟩ := zb_s h2
    obtain ⟨b, hb, h2⟩ := zb_s h2
    obtain ⟨C, -⟩ := H.2.2 c.1 c.2
    rw [← Option.some.inj h1, ← Option.some.inj h2]
    exact zCastsEq T (zCh_c C (zTrH hN ht)) ha hb
  · rw [if_pos (by rw [zif1]; exact c)] at h1 h2
    rw [← Option.some.inj h1, ← Option.some.inj h2]
/-- what the reference says by handPasses, where there is a CHOICE -/
theorem zHPM {cF cc cN inp gcl mHh mFa mFw : Int32} {nF nN stp mst prc al made amt op fx jn lets gof gfx rwd hand mF mN mCst mNF mNN mS mM mC mW mO m1 m2 mX mG mH mTr : Nat → Int32} {rlo rhi mA mB mLe mGe mEr : Nat → Int64} {mWb : Int64} {fa rs : Int32} {er0 : Nat → Int64} {a : Int32 × Int32 × Int32 × (Nat → Int64)} {y : Int32 × Int32 × Int32 × Int32 × (Nat → Int32) × (Nat → Int64) × (Nat → Int64) × (Nat → Int64)} (T : zTN cF cc cN inp nF nN stp mst prc al made amt op fx jn lets mF mN mNF mNN mS mM mC mW mCst mO m1 m2 mX mG mA mB) (R : zRN cN (-1) 0 op made amt rwd rlo rhi) (H : zHN cN cF gcl mHh gof gfx hand mH) (c : 0 < cN ∧ gcl = 0) (h1 : fn_X7_reckon cF cN gof hand stp op made er0 amt rlo rhi mst al = some a) (h2 : fn_X12_handPasses mWb mHh mFa mFw mN mH mTr mO m1 m2 mLe mA mB mGe mS mEr mM mW = some y) : zPE cN rlo rhi a (y.1, y.2.2.1, y.2.2.2.1, y.2.2.2.2.2.1, y.2.2.2.2.2.2.1, y.2.2.2.2.2.2.2) := by
  have hN := T.2.1
  unfold fn_X12_handPasses at h2
  rw [zn01.1, hN.1] at h2
  have hh : mHh = 1 := by
    rcases H.1 c.1 with ⟨a1, _⟩ | ⟨_, a2⟩
    · exact a1
    · exact absurd c.2 a2
  rw [if_neg (by rw [hh]; decide), if_neg (by have := c.1; (first | ((try clear T); (try clear R); (try clear H); (try clear h1); (try clear h2); grind) | grind))] at h2
  obtain ⟨t, ht, h2⟩ := zb_s h2
  obtain ⟨b, hb, h2⟩ := zb_s h2
  obtain ⟨C, -⟩ := H.2.2 c.1 c.2
  rw [← Option.some.inj h2]
  exact zPassEq (wd := rwd) T (zRN_1 R) (Or.inl rfl) (zCh_c C (zTrH hN ht)) h1 hb
theorem zeq_fails {cF cc cN inp gcl mHh mWn mFa mFw : Int32} {nF nN stp mst prc al made amt op fx jn lets gof gfx rwd hand mF mN mCst mNF mNN mS mM mC mW mO m1 m2 mX mG mH mTr : Nat → Int32} {rlo rhi mA mB mLe mGe mEr : Nat → Int64} {mWb : Int64} {fa rs : Int32} {er0 : Nat → Int64} {x : Int32 × Int32 × Int32 × (Nat → Int64)} {y : Int32 × Int32 × Int32 × Int32 × (Nat → Int32) × (Nat → Int64) × (Nat → Int64) × (Nat → Int64)} (T : zTN cF cc cN inp nF nN stp mst prc al made amt op fx jn lets mF mN mNF mNN mS mM mC mW mCst mO m1 m2 mX mG mA mB) (R : zRN cN (-1) 0 op made amt rwd rlo rhi) (H : zHN cN cF gcl mHh gof gfx hand mH) (h1 : fn_X11_fails cF cN gcl fa rs gof hand stp op made er0 amt rlo rhi mst al = some x) (h2 : fn_X12_fails mWn mWb mHh mFa mFw mN mH mTr mO m1 m2 mLe mA mB mGe mS mEr mM mW = some y) : x.1 = y.1 := by
  have hN := T.2.1
  unfold fn_X11_fails at h1
  unfold fn_X12_fails at h2
  rw [zHasC hN.2.1, zb_some] at h1
  rw [zIsTh ⟨hN.1, hN.2.1⟩ H, zb_some] at h2
  by_cases c : 0 < cN ∧ gcl = 0
  · rw [if_neg (by rw [zif1]; exact fun q => q c)] at h1 h2
    obtain ⟨a, ha, h1⟩ := zb_s h1
    obtain ⟨b, hb, h2⟩ := zb_s h2
    obtain ⟨p1, p2, p3, p4⟩ := zHPM (fa := fa) (rs := rs) T R H c ha hb
    dsimp only at p1 p2 p3
    rw [← Option.some.inj h1]
    rcases p4 with ⟨w1, w2, _⟩ | ⟨w1, _⟩
    · rw [if_neg (by rw [← p1, w1]; decide)] at h2
      rw [← Option.some.inj h2]; exact w2
    · rw [if_pos (p1.symm.trans w1)] at h2
      rw [← Option.some.inj h2]; exact p2
  · rw [if_pos (by rw [zif1]; exact c)] at h1 h2
    rw [← Option.some.inj h1, ← Option.some.inj h2]
theorem zeq_why {cF cc cN inp gcl mHh mWn mFa mFw : Int32} {nF nN stp mst prc al made amt op fx jn lets gof gfx rwd hand mF mN mCst mNF mNN mS mM mC mW mO m1 m2 mX mG mH mTr : Nat → Int32} {rlo rhi mA mB mLe mGe mEr : Nat → Int64} {mWb : Int64} {fa rs : Int32} {er0 : Nat → Int64} {x : Int32 × Int32 × Int32 × (Nat → Int64)} {y : Int32 × Int32 × Int32 × Int32 × (Nat → Int32) × (Nat → Int64) × (Nat → Int64) × (Nat → Int64)} (T : zTN cF cc cN inp nF nN stp mst prc al made amt op fx jn lets mF mN mNF mNN mS mM mC mW mCst mO m1 m2 mX mG mA mB) (R : zRN cN (-1) 0 op made amt rwd rlo rhi) (H : zHN cN cF gcl mHh gof gfx hand mH) (h1 : fn_X11_why cF cN gcl fa rs gof hand stp op made er0 amt rlo rhi mst al = some x) (h2 : fn_X12_why mWn mWb mHh mFa mFw mN mH mTr mO m1 m2 mLe mA mB mGe mS mEr mM mW = some y) : x.1 = y.1 := by
  have hN := T.2.1
  unfold fn_X11_why at h1
  unfold fn_X12_why at h2
  rw [zHasC hN.2.1, zb_some] at h1
  rw [zIsTh ⟨hN.1, hN.2.1⟩ H, zb_some] at h2
  by_cases c : 0 < cN ∧ gcl = 0
  · rw [if_neg (by rw [zif1]; exact fun q => q c)] at h1 h2
    obtain ⟨a, ha, h1⟩ := zb_s h1
    obtain ⟨b, hb, h2⟩ := zb_s h2
    obtain ⟨p1, p2, p3, p4⟩ := zHPM (fa := fa) (rs := rs) T R H c ha hb
    dsimp only at p1 p2 p3
    rw [← Option.some.inj h1]
    rcases p4 with ⟨w1, _, w2, _⟩ | ⟨w1, _⟩
    · rw [if_neg (by rw [← p1, w1]; decide)] at h2
      rw [← Option.some.inj h2]; exact w2
    · rw [if_pos (p1.symm.trans w1)] at h2
      rw [← Option.some.inj h2]; exact p3
  · rw [if_pos (by rw [zif1]; exact c)] at h1 h2
    rw [← Option.some.inj h1, ← Option.some.inj h2]
theorem zeq_error {cF cc cN inp gcl mHh mWn mFa mFw : Int32} {nF nN stp mst prc al made amt op fx jn lets gof gfx rwd hand mF mN mCst mNF mNN mS mM mC mW mO m1 m2 mX mG mH mTr : Nat → Int32} {rlo rhi mA mB mLe mGe mEr : Nat → Int64} {mWb : Int64} {p1 fa rs : Int32} {er0 : Nat → Int64} {x : Int64 × Int32 × Int32 × (Nat → Int64)} {y : Int64 × Int32 × Int32 × Int32 × (Nat → Int32) × (Nat → Int64) × (Nat → Int64) × (Nat → Int64)} (T : zTN cF cc cN inp nF nN stp mst prc al made amt op fx jn lets mF mN mNF mNN mS mM mC mW mCst mO m1 m2 mX mG mA mB) (R : zRN cN (-1) 0 op made amt rwd rlo rhi) (H : zHN cN cF gcl mHh gof gfx hand mH) (h1 : fn_X11_error p1 cF cN gcl fa rs gof hand stp op made er0 amt rlo rhi mst al = some x) (h2 : fn_X12_error p1 mWn mWb mHh mFa mFw mN mH mTr mO m1 m2 mLe mA mB mGe mS mEr mM mW = some y) : x.1 = y.1 := by
  have hN := T.2.1
  unfold fn_X11_error at h1
  unfold fn_X12_error at h2
  rw [zHasC hN.2.1, zb_some, zHasN, zb_some] at h1
  rw [zIsTh ⟨hN.1, hN.2.1⟩ H, zb_some, zIsNum (by rw [hN.1]; exact hN.2.1), zb_some, hN.1] at h2
  by_cases c : 0 < cN ∧ gcl = 0
  · rw [if_neg (show ¬ (if 0 < cN ∧ gcl = 0 then (1 : Int32) else 0) = 0 by rw [zif1]; exact fun q => q c)] at h1 h2
    by_cases d : 0 ≤ p1 ∧ p1 < cN
    · rw [if_neg (by rw [zif1]; exact fun q => q d)] at h1 h2
      obtain ⟨a, ha, h1⟩ := zb_s h1
      obtain ⟨b, hb, h2⟩ := zb_s h2
      obtain ⟨e1, e2, e3, e4⟩ := zHPM (fa := fa) (rs := rs) T R H c ha hb
      dsimp only at e1 e2 e3
      rcases e4 with ⟨w1, _, _, w2⟩ | ⟨w1, _, _, _, w2⟩
      · rw [if_neg (by rw [w1]; decide)] at h1
        rw [if_neg (by rw [← e1, w1]; decide)] at h2
        obtain ⟨-, h1⟩ := zg_s h1
        obtain ⟨-, h2⟩ := zg_s h2
        rw [← Option.some.inj h1, ← Option.some.inj h2]
        exact (w2 p1 d.1 d.2).1
      · rw [if_pos w1] at h1
        rw [if_pos (e1.symm.trans w1), ← e2] at h2
        by_cases f : a.2.1 < p1
        · rw [if_pos f] at h1 h2
          rw [← Option.some.inj h1, ← Option.some.inj h2]
        · rw [if_neg f] at h1 h2
          obtain ⟨-, h1⟩ := zg_s h1
          obtain ⟨-, h2⟩ := zg_s h2
          rw [← Option.some.inj h1, ← Option.some.inj h2]
          exact w2 p1 d.1 (by (first | ((try clear T); (try clear R); (try clear H); (try clear h1); (try clear h2); (try clear ha); (try clear hb); grind) | grind))
    · rw [if_pos (by rw [zif1]; exact d)] at h1 h2
      rw [← Option.some.inj h1, ← Option.some.inj h2]
  · rw [if_pos (show (if 0 < cN ∧ gcl = 0 then (1 : Int32) else 0) = 0 by rw [zif1]; exact c)] at h1 h2
    rw [← Option.some.inj h1, ← Option.some.inj h2]
theorem zIsAnsJ {p cN : Int32} {al : Nat → Int32} (hN : cN ≤ 14) : fn_X9_isAnswer p cN al = some (if (0 ≤ p ∧ p < cN) ∧ ¬ al p.toNatClampNeg = (-1) then 1 else 0) := by
  by_cases d : 0 ≤ p ∧ p < cN
  · rw [zIsAns hN d]
    by_cases e : al p.toNatClampNeg = (-1)
    · rw [if_pos e, if_neg (fun q => q.2 e)]
    · rw [if_neg e, if_pos ⟨d, e⟩]
  · unfold fn_X9_isAnswer
    rw [zHasN, zb_some, if_pos (by rw [zif1]; exact d), if_neg (fun q => d q.1)]
theorem zIsAnsM {cF cc cN inp : Int32} {nF nN stp mst prc al made amt op fx jn lets mF mN mCst mNF mNN mS mM mC mW mO m1 m2 mX mG : Nat → Int32} {mA mB : Nat → Int64} {p1 x : Int32} (T : zTN cF cc cN inp nF nN stp mst prc al made amt op fx jn lets mF mN mNF mNN mS mM mC mW mCst mO m1 m2 mX mG mA mB) (h : fn_X12_isAnswer p1 mN mW = some x) : x = if (0 ≤ p1 ∧ p1 < cN) ∧ ¬ al p1.toNatClampNeg = (-1) then 1 else 0 := by
  obtain ⟨hF, ⟨n1, n2, n3⟩, hC, hz, hp, hI, hf, hn, hg⟩ := T
  unfold fn_X12_isAnswer at h
  rw [zIsNum (by rw [n1]; exact n2), zb_some, n1] at h
  by_cases d : 0 ≤ p1 ∧ p1 < cN
  · rw [if_neg (by rw [zif1]; exact fun q => q d)] at h
    obtain ⟨-, h⟩ := zg_s h
    rw [← (hn p1 d.1 d.2).2.2.2.1] at h
    by_cases e : al p1.toNatClampNeg = (-1)
    · rw [if_pos e] at h
      rw [if_neg (fun q => q.2 e)]; exact (Option.some.inj h).symm
    · rw [if_neg e] at h
      rw [if_pos ⟨d, e⟩]; exact (Option.some.inj h).symm
  · rw [if_pos (by rw [zif1]; exact d)] at h
    rw [if_neg (fun q => d q.1)]; exact (Option.some.inj h).symm
theorem zeq_slack {cF cc cN inp gcl mHh mWn mFa mFw : Int32} {nF nN stp mst prc al made amt op fx jn lets gof gfx rwd hand mF mN mCst mNF mNN mS mM mC mW mO m1 m2 mX mG mH mTr : Nat → Int32} {rlo rhi mA mB mLe mGe mEr : Nat → Int64} {mWb : Int64} {p1 fa rs : Int32} {er0 : Nat → Int64} {x : Int64 × Int32 × Int32 × (Nat → Int64)} {y : Int64 × Int32 × Int32 × Int32 × (Nat → Int32) × (Nat → Int64) × (Nat → Int64) × (Nat → Int64)} (T : zTN cF cc cN inp nF nN stp mst prc al made amt op fx jn lets mF mN mNF mNN mS mM mC mW mCst mO m1 m2 mX mG mA mB) (R : zRN cN (-1) 0 op made amt rwd rlo rhi) (H : zHN cN cF gcl mHh gof gfx hand mH) (h1 : fn_X11_slack p1 cF cN al gcl fa rs gof hand stp op made er0 amt rlo rhi mst = some x) (h2 : fn_X12_slack p1 mWn mWb mHh mFa mFw mN mW mH mTr mO m1 m2 mLe mA mB mGe mS mEr mM = some y) : x.1 = y.1 := by
  have hN := T.2.1
  unfold fn_X11_slack at h1
  unfold fn_X12_slack at h2
  rw [zIsAnsJ hN.2.2, zb_some] at h1
  obtain ⟨w, hw, h2⟩ := zb_s h2
  rw [zIsAnsM T hw] at h2
  by_cases d : (0 ≤ p1 ∧ p1 < cN) ∧ ¬ al p1.toNatClampNeg = (-1)
  · rw [if_neg (by rw [zif1]; exact fun q => q d)] at h1 h2
    obtain ⟨a, ha, h1⟩ := zb_s h1
    obtain ⟨b, hb, h2⟩ := zb_s h2
    rcases zHandP T R H ha hb with ⟨_, z1, z2⟩ | ⟨c, ⟨e1, e2, e3, e4⟩, _⟩
    · rw [if_pos z1] at h1
      rw [if_pos z2] at h2
      rw [← Option.some.inj h1, ← Option.some.inj h2]
    · dsimp only at e1 e2 e3
      rcases e4 with ⟨w1, _, _, w2⟩ | ⟨w1, _⟩
      · rw [if_neg (by rw [w1]; decide)] at h1
        rw [if_neg (by rw [← e1, w1]; decide)] at h2
        obtain ⟨-, h1⟩ := zg_s h1
        obtain ⟨-, h2⟩ := zg_s h2
        obtain ⟨-, h2⟩ := zg_s h2
        rw [← Option.some.inj h1, ← Option.some.inj h2]
        show (al p1.toNatClampNeg).toInt64 - a.2.2.2 p1.toNatClampNeg = (mW p1.toNatClampNeg).toInt64 - b.2.2.2.2.2.2.2 p1.toNatClampNeg
        obtain ⟨hF, _, hC, hz, hp, hI, hf, hn, hg⟩ := T
        rw [(hn p1 d.1.1 d.1.2).2.2.2.1]
        have := (w2 p1 d.1.1 d.1.2).1
        dsimp only at this
        rw [this]
      · rw [if_pos w1] at h1
        rw [if_pos (e1.symm.trans w1)] at h2
        rw [← Option.some.inj h1, ← Option.some.inj h2]
  · rw [if_pos (by rw [zif1]; exact d)] at h1 h2
    rw [← Option.some.inj h1, ← Option.some.inj h2]
/-! choose, blame, certificate, status -/
theorem zref {k : Int32} {f : Nat → Int32} {x : Int32 × (Nat → Int32)} (hk : 0 ≤ k ∧ k < 5) (h : fn_X11_refuse k f = some x) : x = (-1, upd f k.toNatClampNeg (f k.toNatClampNeg + 1)) := by
  unfold fn_X11_refuse at h
  rw [if_neg (by (first | ((try clear h); grind) | grind)), if_neg (by (first | ((try clear h); grind) | grind))] at h
  obtain ⟨-, h⟩ := zg_s h
  exact (Option.some.inj h).symm
theorem zrefM {k : Int32} {f : Nat → Int32} {x : Int32 × (Nat → Int32)} (h : fn_X12_refuses k f = some x) : x = (-1, upd f k.toNatClampNeg (f k.toNatClampNeg + 1)) := by
  unfold fn_X12_refuses at h
  obtain ⟨-, h⟩ := zg_s h
  exact (Option.some.inj h).symm
theorem zrefB {k : Int32} {f : Nat → Int32} {x : Int32 × (Nat → Int32)} (h : fn_X12_isRefused k f = some x) : x = (0, upd f k.toNatClampNeg (f k.toNatClampNeg + 1)) := by
  unfold fn_X12_isRefused at h
  obtain ⟨-, h⟩ := zg_s h
  exact (Option.some.inj h).symm
theorem zeq_status {mRf rf : Nat → Int32} {p1 x y : Int32} (e : rf = mRf) (h1 : fn_X11_status p1 rf = some x) (h2 : fn_X12_status p1 mRf = some y) : x = y := by
  subst e
  unfold fn_X11_status at h1
  unfold fn_X12_status at h2
  have hin : p1.toInt64 ≤ (4 : Int64) ↔ p1 ≤ 4 := by rw [show (4 : Int64) = (4 : Int32).toInt64 by decide +kernel, z64_le]
  simp only [zIsIn, zb_some, z64_ge0, hin] at h2
  by_cases c : 0 ≤ p1 ∧ p1 ≤ 4
  · rw [if_neg (by rw [zif1]; exact fun q => q c)] at h2
    rw [if_neg (by (first | ((try clear h1); (try clear h2); grind) | grind)), if_neg (by (first | ((try clear h1); (try clear h2); grind) | grind))] at h1
    obtain ⟨-, h1⟩ := zg_s h1
    obtain ⟨-, h2⟩ := zg_s h2
    rw [← Option.some.inj h1, ← Option.some.inj h2]
  · rw [if_pos (by rw [zif1]; exact c)] at h2
    have e1 : x = (-1) := by
      by_cases d : p1 < 0
      · rw [if_pos d] at h1; exact (Option.some.inj h1).symm
      · rw [if_neg d, if_pos (by (first | ((try clear h1); (try clear h2); grind) | grind))] at h1; exact (Option.some.inj h1).symm
    rw [e1, ← Option.some.inj h2]
/-- a NUMBER whose GROUP is FREE, in both -/
theorem zFrJ {cF cc cN inp gc gfr gcl : Int32} {nF nN stp mst prc al made amt op fx jn lets gof gfx gld mF mN mCst mNF mNN mS mM mC mW mO m1 m2 mX mG : Nat → Int32} {mA mB : Nat → Int64} {p x : Int32} (T : zTN cF cc cN inp nF nN stp mst prc al made amt op fx jn lets mF mN mNF mNN mS mM mC mW mCst mO m1 m2 mX mG mA mB) (G : zGp cN gc gfr gcl gof gfx gld fx mG) (h : fn_X9_isFree p cN gc gof gfx = some x) : x = 1 ∧ (0 ≤ p ∧ p < cN) ∧ gfx (gof p.toNatClampNeg).toNatClampNeg = (-1) ∨ x = 0 ∧ ¬ ((0 ≤ p ∧ p < cN) ∧ gfx (gof p.toNatClampNeg).toNatClampNeg = (-1)) := by
  obtain ⟨hF, ⟨n1, n2, n3⟩, hC, hz, hp, hI, hf, hn, hg⟩ := T
  unfold fn_X9_isFree at h
  rw [zHasN, zb_some] at h
  by_cases d : 0 ≤ p ∧ p < cN
  · rw [if_neg (by rw [zif1]; exact fun q => q d)] at h
    obtain ⟨-, h⟩ := zg_s h
    obtain ⟨w, hw, h⟩ := zb_s h
    unfold fn_X2_isFree at hw
    obtain ⟨l1, l2, l3⟩ := hg.1 p d.1 d.2
    have e := G.1.2.1 p d.1 d.2
    have b0 := (zRk_b (G := mG) (p := mG p.toNatClampNeg) l1 (by (first | ((try clear T); (try clear G); (try clear h); (try clear hC); (try clear hI); (try clear hf); (try clear hn); (try clear hg); (try clear hw); grind) | grind))).1
    have b1 := zRk_lt (G := mG) l1 (show mG p.toNatClampNeg < cN by (first | ((try clear T); (try clear G); (try clear h); (try clear hC); (try clear hI); (try clear hf); (try clear hn); (try clear hg); (try clear hw); grind) | grind)) n3 l3
    rw [← G.1.1] at b1
    rw [← e] at b0 b1
    rw [if_neg (by (first | ((try clear T); (try clear G); (try clear h); (try clear hC); (try clear hI); (try clear hf); (try clear hn); (try clear hg); (try clear hw); grind) | grind)), if_neg (by (first | ((try clear T); (try clear G); (try clear h); (try clear hC); (try clear hI); (try clear hf); (try clear hn); (try clear hg); (try clear hw); grind) | grind))] at hw
    obtain ⟨-, hw⟩ := zg_s hw
    by_cases c : gfx (gof p.toNatClampNeg).toNatClampNeg = (-1)
    · rw [if_pos c] at hw
      rw [if_neg (by rw [← Option.some.inj hw]; decide)] at h
      exact Or.inl ⟨(Option.some.inj h).symm, d, c⟩
    · rw [if_neg c] at hw
      rw [if_pos (Option.some.inj hw).symm] at h
      exact Or.inr ⟨(Option.some.inj h).symm, fun q => c q.2⟩
  · rw [if_pos (by rw [zif1]; exact d)] at h
    exact Or.inr ⟨(Option.some.inj h).symm, fun q => d q.1⟩
theorem zFrM {cF cc cN inp gc gfr gcl : Int32} {nF nN stp mst prc al made amt op fx jn lets gof gfx gld mF mN mCst mNF mNN mS mM mC mW mO m1 m2 mX mG : Nat → Int32} {mA mB : Nat → Int64} {p x : Int32} (T : zTN cF cc cN inp nF nN stp mst prc al made amt op fx jn lets mF mN mNF mNN mS mM mC mW mCst mO m1 m2 mX mG mA mB) (G : zGp cN gc gfr gcl gof gfx gld fx mG) (d : 0 ≤ p ∧ p < cN) (h : fn_X12_isFree (mG p.toNatClampNeg) mN mG mX = some x) : x = 1 ∧ gfx (gof p.toNatClampNeg).toNatClampNeg = (-1) ∨ x = 0 ∧ ¬ gfx (gof p.toNatClampNeg).toNatClampNeg = (-1) := by
  have T0 := T
  obtain ⟨hF, hN, hC, hz, hp, hI, hf, hn, hg⟩ := T
  have e : gfx (gof p.toNatClampNeg).toNatClampNeg = (-1) ↔ zFree cN mG mX (mG p.toNatClampNeg) := (zFxS_f (zGp_fx hN.2.2 hg G d)).trans (zFree_c (fun i i0 i1 => (hn i i0 i1).2.2.1))
  rw [e]
  exact zIsFree hN h
set_option maxHeartbeats 4000000 in
theorem zeq_choose {cF cc cN inp gc gfr gcl mHh : Int32} {nF nN stp mst prc al made amt op fx jn lets gof gfx gld hand mF mN mCst mNF mNN mS mM mC mW mO m1 m2 mX mG mH mRf rf : Nat → Int32} {mA mB : Nat → Int64} {p1 p2 : Int32} {x : Int32 × (Nat → Int32) × (Nat → Int32)} {y : Int32 × (Nat → Int32) × (Nat → Int32)} (T : zTN cF cc cN inp nF nN stp mst prc al made amt op fx jn lets mF mN mNF mNN mS mM mC mW mCst mO m1 m2 mX mG mA mB) (G : zGp cN gc gfr gcl gof gfx gld fx mG) (H : zHN cN cF gcl mHh gof gfx hand mH) (h1 : fn_X11_choose p1 p2 cF cN gc gcl rf gof gfx hand = some x) (h2 : fn_X12_choose p1 p2 mHh mRf mN mF mG mX mH = some y) : x.1 = y.1 ∧ zHN cN cF gcl mHh gof gfx x.2.2 y.2.2 ∧ (rf = mRf → x.2.1 = y.2.1) := by
  have T0 := T
  obtain ⟨⟨f1, f2, f3⟩, ⟨n1, n2, n3⟩, hC, hz, hp, hI, hf, hn, hg⟩ := T
  unfold fn_X11_choose at h1
  unfold fn_X12_choose at h2
  rw [zHasC n2, zb_some] at h1
  rw [zIsNum (by rw [n1]; exact n2), zb_some, n1] at h2
  rw [zHasF, zb_some] at h1
  rw [zIsFmt (by rw [f1]; exact f2), zb_some, f1] at h2
  -- refused in both
  have no : (∃ z, fn_X11_refuse 2 rf = some z ∧ x = (z.1, z.2, hand)) → (∃ z, fn_X12_refuses 2 mRf = some z ∧ y = (z.1, z.2, mH)) → x.1 = y.1 ∧ zHN cN cF gcl mHh gof gfx x.2.2 y.2.2 ∧ (rf = mRf → x.2.1 = y.2.1) := by
    intro ⟨z, z1, z2⟩ ⟨w, w1, w2⟩
    rw [zref (by decide) z1] at z2
    rw [zrefM w1] at w2
    rw [z2, w2]
    exact ⟨rfl, H, fun q => by show upd rf _ _ = upd mRf _ _; rw [q]⟩
  have r1 : ∀ {k : Int32 × (Nat → Int32) → Option (Int32 × (Nat → Int32) × (Nat → Int32))}, k = (fun o => some (o.1, o.2, hand)) → zb (fn_X11_refuse 2 rf) k = some x → ∃ z, fn_X11_refuse 2 rf = some z ∧ x = (z.1, z.2, hand) := by
    intro k hk q
    obtain ⟨z, z1, z2⟩ := zb_s q
    rw [hk] at z2
    exact ⟨z, z1, (Option.some.inj z2).symm⟩
  have r2 : ∀ {k : Int32 × (Nat → Int32) → Option (Int32 × (Nat → Int32) × (Nat → Int32))}, k = (fun o => some (o.1, o.2, mH)) → zb (fn_X12_refuses 2 mRf) k = some y → ∃ z, fn_X12_refuses 2 mRf = some z ∧ y = (z.1, z.2, mH) := by
    intro k hk q
    obtain ⟨z, z1, z2⟩ := zb_s q
    rw [hk] at z2
    exact ⟨z, z1, (Option.some.inj z2).symm⟩
  by_cases c : 0 < cN ∧ gcl = 0
  · have hh : mHh = 1 := by
      rcases H.1 c.1 with ⟨a1, _⟩ | ⟨_, a2⟩
      · exact a1
      · exact absurd c.2 a2
    rw [if_neg (show ¬ (if 0 < cN ∧ gcl = 0 then (1 : Int32) else 0) = 0 by rw [zif1]; exact fun q => q c)] at h1
    rw [if_neg (show ¬ mHh = 0 by rw [hh]; decide)] at h2
    by_cases d : 0 ≤ p2 ∧ p2 < cF
    · rw [if_neg (show ¬ (if 0 ≤ p2 ∧ p2 < cF then (1 : Int32) else 0) = 0 by rw [zif1]; exact fun q => q d)] at h1 h2
      obtain ⟨w, hw, h1⟩ := zb_s h1
      by_cases e : 0 ≤ p1 ∧ p1 < cN
      · rw [if_neg (show ¬ (if 0 ≤ p1 ∧ p1 < cN then (1 : Int32) else 0) = 0 by rw [zif1]; exact fun q => q e)] at h2
        obtain ⟨-, h2⟩ := zg_s h2
        obtain ⟨v, hv, h2⟩ := zb_s h2
        rcases zFrM T0 G e hv with ⟨v1, v2⟩ | ⟨v1, v2⟩
        · rcases zFrJ T0 G hw with ⟨w1, _, _⟩ | ⟨w1, w2⟩
          · rw [if_neg (by rw [w1]; decide)] at h1
            rw [if_neg (by rw [v1]; decide)] at h2
            obtain ⟨-, h1⟩ := zg_s h1
            obtain ⟨-, h1⟩ := zg_s h1
            obtain ⟨-, h2⟩ := zg_s h2
            obtain ⟨C, D⟩ := H.2.2 c.1 c.2
            obtain ⟨⟨c1, c2⟩, c3, c4, c5⟩ := C p1 e.1 e.2
            rw [← Option.some.inj h1]
            rw [zn01.1, n1] at h2
            have key : y.1 = mH p1.toNatClampNeg ∧ y.2.1 = mRf ∧ (∀ i : Int32, 0 ≤ i → i < cN → y.2.2 i.toNatClampNeg = if mG i.toNatClampNeg = mG p1.toNatClampNeg then p2 else mH i.toNatClampNeg) := by
              refine zl_ip (P := fun y : Int32 × (Nat → Int32) × (Nat → Int32) => y.1 = mH p1.toNatClampNeg ∧ y.2.1 = mRf ∧ (∀ i : Int32, 0 ≤ i → i < cN → y.2.2 i.toNatClampNeg = if mG i.toNatClampNeg = mG p1.toNatClampNeg then p2 else mH i.toNatClampNeg)) (fun s => 0 ≤ s.1 ∧ s.1 ≤ cN ∧ (∀ i : Int32, 0 ≤ i → i < s.1 → s.2 i.toNatClampNeg = if mG i.toNatClampNeg = mG p1.toNatClampNeg then p2 else mH i.toNatClampNeg) ∧ (∀ i : Int32, 0 ≤ i → s.1 ≤ i → s.2 i.toNatClampNeg = mH i.toNatClampNeg)) ?_ _ _ _ ?_ h2
              rotate_left
              · exact ⟨(show (0 : Int32) ≤ 0 by decide), n2, fun i i0 i1 => absurd i1 (by show ¬ i < 0; (first | ((try clear T); (try clear G); (try clear H); (try clear h1); (try clear h2); (try clear hC); (try clear hI); (try clear hf); (try clear hn); (try clear hg); (try clear no); (try clear z1); (try clear z2); (try clear r1); (try clear r2); (try clear hw); (try clear hv); (try clear key); grind) | grind)), fun _ _ _ => rfl⟩
              intro s back o ⟨H1, H2, H3, H4⟩ hb ho
              obtain ⟨k, row⟩ := s
              dsimp only at H1 H2 H3 H4 ho
              by_cases u : cN ≤ k
              · rw [if_pos u] at ho
                rw [← Option.some.inj ho]
                exact ⟨rfl, rfl, fun i i0 i1 => H3 i i0 (by (first | ((try clear T); (try clear G); (try clear H); (try clear h1); (try clear h2); (try clear hC); (try clear hI); (try clear hf); (try clear hn); (try clear hg); (try clear no); (try clear z1); (try clear z2); (try clear r1); (try clear r2); (try clear hw); (try clear hv); (try clear key); (try clear hb); (try clear ho); grind) | grind))⟩
              · rw [if_neg u] at ho
                obtain ⟨-, ho⟩ := zg_s ho
                obtain ⟨-, ho⟩ := zg_s ho
                have nxt : ∀ v : Int32, v = (if mG k.toNatClampNeg = mG p1.toNatClampNeg then p2 else mH k.toNatClampNeg) → back (k + 1, upd row k.toNatClampNeg v) = some o → (o.1 = mH p1.toNatClampNeg ∧ o.2.1 = mRf ∧ (∀ i : Int32, 0 ≤ i → i < cN → o.2.2 i.toNatClampNeg = if mG i.toNatClampNeg = mG p1.toNatClampNeg then p2 else mH i.toNatClampNeg)) := by
                  intro v hv hbk
                  refine hb _ _ ?_ hbk
                  refine ⟨(show 0 ≤ k + 1 by (first | ((try clear T); (try clear G); (try clear H); (try clear h1); (try clear h2); (try clear hC); (try clear hI); (try clear hf); (try clear hn); (try clear hg); (try clear no); (try clear z1); (try clear z2); (try clear r1); (try clear r2); (try clear hw); (try clear key); (try clear hb); (try clear ho); (try clear nxt); grind) | grind)), (show k + 1 ≤ cN by (first | ((try clear T); (try clear G); (try clear H); (try clear h1); (try clear h2); (try clear hC); (try clear hI); (try clear hf); (try clear hn); (try clear hg); (try clear no); (try clear z1); (try clear z2); (try clear r1); (try clear r2); (try clear hw); (try clear key); (try clear hb); (try clear ho); (try clear nxt); grind) | grind)), fun i i0 i1 => ?_, fun i i0 i1 => ?_⟩
                  · have i1 : i < k + 1 := i1
                    show upd row k.toNatClampNeg v i.toNatClampNeg = _
                    rw [zup H1 i0]
                    by_cases q : i = k
                    · rw [if_pos q, hv, q]
                    · rw [if_neg q]; exact H3 i i0 (by (first | ((try clear T); (try clear G); (try clear H); (try clear h1); (try clear h2); (try clear hC); (try clear hI); (try clear hf); (try clear hn); (try clear hg); (try clear no); (try clear z1); (try clear z2); (try clear r1); (try clear r2); (try clear hw); (try clear key); (try clear hb); (try clear ho); (try clear nxt); grind) | grind))
                  · have i1 : k + 1 ≤ i := i1
                    show upd row k.toNatClampNeg v i.toNatClampNeg = _
                    rw [zup H1 i0, if_neg (by (first | ((try clear T); (try clear G); (try clear H); (try clear h1); (try clear h2); (try clear hC); (try clear hI); (try clear hf); (try clear hn); (try clear hg); (try clear no); (try clear z1); (try clear z2); (try clear r1); (try clear r2); (try clear hw); (try clear key); (try clear hb); (try clear ho); (try clear nxt); grind) | grind))]; exact H4 i i0 (by (first | ((try clear T); (try clear G); (try clear H); (try clear h1); (try clear h2); (try clear hC); (try clear hI); (try clear hf); (try clear hn); (try clear hg); (try clear no); (try clear z1); (try clear z2); (try clear r1); (try clear r2); (try clear hw); (try clear key); (try clear hb); (try clear ho); (try clear nxt); grind) | grind))
                by_cases t : mG k.toNatClampNeg = mG p1.toNatClampNeg
                · rw [if_pos t] at ho
                  obtain ⟨-, ho⟩ := zg_s ho
                  exact nxt p2 (by rw [if_pos t]) ho
                · rw [if_neg t] at ho
                  obtain ⟨-, ho⟩ := zg_s ho
                  exact nxt (row k.toNatClampNeg) (by rw [if_neg t]; exact H4 k H1 (by (first | ((try clear T); (try clear G); (try clear H); (try clear h1); (try clear h2); (try clear hC); (try clear hI); (try clear hf); (try clear hn); (try clear hg); (try clear no); (try clear z1); (try clear z2); (try clear r1); (try clear r2); (try clear hw); (try clear key); (try clear hb); (try clear ho); (try clear nxt); grind) | grind))) ho
            obtain ⟨y1, y2, y3⟩ := key
            refine ⟨?_, ⟨H.1, H.2.1, fun _ _ => ⟨fun i i0 i1 => ?_, fun i i0 i1 i2 => ?_⟩⟩, fun q => ?_⟩
            · rw [y1]; exact c3
            · obtain ⟨⟨a1, a2⟩, a3, a4, a5⟩ := C i i0 i1
              show (0 ≤ gof i.toNatClampNeg ∧ gof i.toNatClampNeg < 14) ∧ upd hand (gof p1.toNatClampNeg).toNatClampNeg p2 (gof i.toNatClampNeg).toNatClampNeg = y.2.2 i.toNatClampNeg ∧ 0 ≤ y.2.2 i.toNatClampNeg ∧ y.2.2 i.toNatClampNeg < cF
              have eq := zGp_eq n3 hg G ⟨i0, i1⟩ e
              rw [y3 i i0 i1, zup c1 a1]
              by_cases t : gof i.toNatClampNeg = gof p1.toNatClampNeg
              · rw [if_pos t, if_pos (eq.mp t)]
                exact ⟨⟨a1, a2⟩, rfl, d.1, d.2⟩
              · rw [if_neg t, if_neg (fun q => t (eq.mpr q))]
                exact ⟨⟨a1, a2⟩, a3, a4, a5⟩
            · obtain ⟨⟨a1, a2⟩, a3, a4, a5⟩ := C i i0 i1
              show upd hand (gof p1.toNatClampNeg).toNatClampNeg p2 (gof i.toNatClampNeg).toNatClampNeg = gfx (gof i.toNatClampNeg).toNatClampNeg
              rw [zup c1 a1, if_neg (fun t => i2 (by rw [t]; exact v2))]
              exact D i i0 i1 i2
            · show rf = y.2.1
              rw [y2]; exact q
          · exact absurd ⟨e, v2⟩ w2
        · rcases zFrJ T0 G hw with ⟨_, _, w2⟩ | ⟨w1, w2⟩
          · exact absurd w2 v2
          · rw [if_pos w1] at h1
            rw [if_pos v1] at h2
            exact no (r1 rfl h1) (r2 rfl h2)
      · rw [if_pos (show (if 0 ≤ p1 ∧ p1 < cN then (1 : Int32) else 0) = 0 by rw [zif1]; exact e)] at h2
        rcases zFrJ T0 G hw with ⟨_, w2, _⟩ | ⟨w1, w2⟩
        · exact absurd w2 e
        · rw [if_pos w1] at h1
          exact no (r1 rfl h1) (r2 rfl h2)
    · rw [if_pos (show (if 0 ≤ p2 ∧ p2 < cF then (1 : Int32) else 0) = 0 by rw [zif1]; exact d)] at h1 h2
      have h2' : ∃ z, fn_X12_refuses 2 mRf = some z ∧ y = (z.1, z.2, mH) := by
        by_cases e : (if 0 ≤ p1 ∧ p1 < cN then (1 : Int32) else 0) = 0
        · rw [if_pos e] at h2; exact r2 rfl h2
        · rw [if_neg e] at h2; exact r2 rfl h2
      exact no (r1 rfl h1) h2'
  · rw [if_pos (show (if 0 < cN ∧ gcl = 0 then (1 : Int32) else 0) = 0 by rw [zif1]; exact c)] at h1
    have h2' : ∃ z, fn_X12_refuses 2 mRf = some z ∧ y = (z.1, z.2, mH) := by
      by_cases d : mHh = 0
      · rw [if_pos d] at h2; exact r2 rfl h2
      · rw [if_neg d] at h2
        have z : cN = 0 := by
          by_cases z : 0 < cN
          · rcases H.1 z with ⟨_, a2⟩ | ⟨a1, _⟩
            · exact absurd ⟨z, a2⟩ c
            · exact absurd a1 d
          · (first | ((try clear T); (try clear G); (try clear H); (try clear h1); (try clear h2); (try clear hC); (try clear hI); (try clear hf); (try clear hn); (try clear hg); (try clear no); (try clear z1); (try clear z2); (try clear r1); (try clear r2); (try clear hw); (try clear key); (try clear hb); (try clear ho); (try clear nxt); (try clear h2'); grind) | grind)
        have e : (if 0 ≤ p1 ∧ p1 < cN then (1 : Int32) else 0) = 0 := by rw [zif1]; intro q; (first | ((try clear T); (try clear G); (try clear H); (try clear h1); (try clear h2); (try clear hC); (try clear hI); (try clear hf); (try clear hn); (try clear hg); (try clear no); (try clear z1); (try clear z2); (try clear r1); (try clear r2); (try clear hw); (try clear key); (try clear hb); (try clear ho); (try clear nxt); (try clear h2'); grind) | grind)
        rw [if_pos e] at h2
        exact r2 rfl h2
    exact no (r1 rfl h1) h2'
theorem zGofR {cN gc gfr gcl : Int32} {fx jn gof gfx gld mG : Nat → Int32} {j : Int32} (hN : cN ≤ 14) (hg : zG0 cN jn mG) (G : zGp cN gc gfr gcl gof gfx gld fx mG) (hj : 0 ≤ j ∧ j < cN) : 0 ≤ gof j.toNatClampNeg ∧ gof j.toNatClampNeg < 14 := by
  obtain ⟨l1, l2, l3⟩ := hg.1 j hj.1 hj.2
  have b := zRk_b (G := mG) (p := mG j.toNatClampNeg) l1 (by (first | ((try clear hg); (try clear G); grind) | grind))
  rw [G.1.2.1 j hj.1 hj.2]
  exact ⟨b.1, by (first | ((try clear hg); (try clear G); grind) | grind)⟩
theorem zFillF {p gc : Int32} {ch gfx x : Nat → Int32} (hg : 0 ≤ gc ∧ gc ≤ 14) (h : fn_X2_fillFree p gc ch gfx = some x) : ∀ g : Int32, 0 ≤ g → g < gc → x g.toNatClampNeg = if gfx g.toNatClampNeg = (-1) then p else gfx g.toNatClampNeg := by
  unfold fn_X2_fillFree at h
  refine zl_ip (P := fun x : Nat → Int32 => ∀ g : Int32, 0 ≤ g → g < gc → x g.toNatClampNeg = if gfx g.toNatClampNeg = (-1) then p else gfx g.toNatClampNeg) (fun s => 0 ≤ s.1 ∧ s.1 ≤ gc ∧ ∀ g : Int32, 0 ≤ g → g < s.1 → s.2 g.toNatClampNeg = if gfx g.toNatClampNeg = (-1) then p else gfx g.toNatClampNeg) ?_ _ _ _ ?_ h
  rotate_left
  · exact ⟨(show (0 : Int32) ≤ 0 by decide), hg.1, fun g g0 g1 => absurd g1 (by show ¬ g < 0; (first | ((try clear h); grind) | grind))⟩
  intro s back o ⟨H1, H2, H3⟩ hb ho
  obtain ⟨k, row⟩ := s
  dsimp only at H1 H2 H3 ho
  by_cases c : gc ≤ k
  · rw [if_pos c] at ho
    rw [← Option.some.inj ho]
    exact fun g g0 g1 => H3 g g0 (by (first | ((try clear h); (try clear hb); (try clear ho); grind) | grind))
  · rw [if_neg c, if_neg (show ¬ 14 ≤ k by (first | ((try clear h); (try clear hb); (try clear ho); grind) | grind))] at ho
    obtain ⟨-, ho⟩ := zg_s ho
    have nxt : ∀ v : Int32, v = (if gfx k.toNatClampNeg = (-1) then p else gfx k.toNatClampNeg) → back (k + 1, upd row k.toNatClampNeg v) = some o → ∀ g : Int32, 0 ≤ g → g < gc → o g.toNatClampNeg = if gfx g.toNatClampNeg = (-1) then p else gfx g.toNatClampNeg := by
      intro v hv hbk
      refine hb _ _ ?_ hbk
      refine ⟨(show 0 ≤ k + 1 by (first | ((try clear h); (try clear hb); (try clear ho); (try clear nxt); grind) | grind)), (show k + 1 ≤ gc by (first | ((try clear h); (try clear hb); (try clear ho); (try clear nxt); grind) | grind)), fun g g0 g1 => ?_⟩
      have g1 : g < k + 1 := g1
      show upd row k.toNatClampNeg v g.toNatClampNeg = _
      rw [zup H1 g0]
      by_cases q : g = k
      · rw [if_pos q, hv, q]
      · rw [if_neg q]; exact H3 g g0 (by (first | ((try clear h); (try clear hb); (try clear ho); (try clear nxt); grind) | grind))
    by_cases d : gfx k.toNatClampNeg = (-1)
    · rw [if_pos d] at ho
      exact nxt p (by rw [if_pos d]) ho
    · rw [if_neg d] at ho
      exact nxt (gfx k.toNatClampNeg) (by rw [if_neg d]) ho
/-! blame, certificate -/
theorem zCopyC {f g x : Nat → Int32} (h : fn_X11_copyChoice f g = some x) : ∀ i : Int32, 0 ≤ i → i < 14 → x i.toNatClampNeg = f i.toNatClampNeg := by
  unfold fn_X11_copyChoice at h
  refine zl_ip (P := fun x : Nat → Int32 => ∀ i : Int32, 0 ≤ i → i < 14 → x i.toNatClampNeg = f i.toNatClampNeg) (fun s => 0 ≤ s.1 ∧ s.1 ≤ 14 ∧ ∀ i : Int32, 0 ≤ i → i < s.1 → s.2 i.toNatClampNeg = f i.toNatClampNeg) ?_ _ _ _ ?_ h
  rotate_left
  · exact ⟨(show (0 : Int32) ≤ 0 by decide), (show (0 : Int32) ≤ 14 by decide), fun i i0 i1 => absurd i1 (by show ¬ i < 0; (first | ((try clear h); grind) | grind))⟩
  intro s back o ⟨H1, H2, H3⟩ hb ho
  obtain ⟨k, row⟩ := s
  dsimp only at H1 H2 H3 ho
  by_cases c : 14 ≤ k
  · rw [if_pos c] at ho
    rw [← Option.some.inj ho]
    exact fun i i0 i1 => H3 i i0 (by (first | ((try clear h); (try clear hb); (try clear ho); grind) | grind))
  · rw [if_neg c, if_neg c, if_neg c] at ho
    obtain ⟨-, ho⟩ := zg_s ho
    refine hb _ _ ?_ ho
    refine ⟨(show 0 ≤ k + 1 by (first | ((try clear h); (try clear hb); (try clear ho); grind) | grind)), (show k + 1 ≤ 14 by (first | ((try clear h); (try clear hb); (try clear ho); grind) | grind)), fun i i0 i1 => ?_⟩
    have i1 : i < k + 1 := i1
    show upd row k.toNatClampNeg (f k.toNatClampNeg) i.toNatClampNeg = f i.toNatClampNeg
    rw [zup H1 i0]
    by_cases q : i = k
    · rw [if_pos q, q]
    · rw [if_neg q]; exact H3 i i0 (by (first | ((try clear h); (try clear hb); (try clear ho); grind) | grind))
theorem zFinest {cF cc cN inp : Int32} {nF nN stp mst prc al made amt op fx jn lets mF mN mCst mNF mNN mS mM mC mW mO m1 m2 mX mG : Nat → Int32} {mA mB : Nat → Int64} {x y : Int32} (T : zTN cF cc cN inp nF nN stp mst prc al made amt op fx jn lets mF mN mNF mNN mS mM mC mW mCst mO m1 m2 mX mG mA mB) (h0 : 0 < cF) (h1 : fn_X9_finestFormat cF stp = some x) (h2 : fn_X12_finest mF mS = some y) : x = y ∧ 0 ≤ x ∧ x < cF := by
  obtain ⟨⟨f1, f2, f3⟩, hN, hC, hz, hp, hI, hf, hn, hg⟩ := T
  unfold fn_X9_finestFormat at h1
  unfold fn_X12_finest at h2
  rw [zn01.1, f1] at h2
  refine zl_ip2 (P := fun x y => x = y ∧ 0 ≤ x ∧ x < cF) (fun s t => t = s ∧ 0 ≤ s.1 ∧ s.1 < cF ∧ 1 ≤ s.2 ∧ s.2 ≤ 4) ?_ _ _ _ _ _ _ ?_ h1 h2
  rotate_left
  · exact ⟨rfl, (show (0 : Int32) ≤ 0 by decide), h0, (show (1 : Int32) ≤ 1 by decide), (show (1 : Int32) ≤ 4 by decide)⟩
  intro s t k1 k2 o1 o2 ⟨R1, R2, R3, R4, R5⟩ hb ho1 ho2
  subst R1
  obtain ⟨b, k⟩ := t
  dsimp only at R2 R3 R4 R5 ho1 ho2
  by_cases d : cF ≤ k
  · rw [if_pos d] at ho1 ho2
    rw [← Option.some.inj ho1, ← Option.some.inj ho2]
    exact ⟨rfl, R2, R3⟩
  · rw [if_neg d] at ho1 ho2
    obtain ⟨-, ho1⟩ := zg_s ho1
    obtain ⟨-, ho1⟩ := zg_s ho1
    obtain ⟨-, ho2⟩ := zg_s ho2
    obtain ⟨-, ho2⟩ := zg_s ho2
    rw [← (hf b R2 R3).2.1, ← (hf k (by (first | ((try clear T); (try clear h1); (try clear h2); (try clear hC); (try clear hI); (try clear hf); (try clear hn); (try clear hg); (try clear hb); (try clear ho1); (try clear ho2); grind) | grind)) (by (first | ((try clear T); (try clear h1); (try clear h2); (try clear hC); (try clear hI); (try clear hf); (try clear hn); (try clear hg); (try clear hb); (try clear ho1); (try clear ho2); grind) | grind))).2.1] at ho2
    by_cases e : stp b.toNatClampNeg ≤ stp k.toNatClampNeg
    · rw [if_pos e] at ho1 ho2
      refine hb _ _ _ _ ?_ ho1 ho2
      exact ⟨rfl, R2, R3, (show 1 ≤ k + 1 by (first | ((try clear T); (try clear h1); (try clear h2); (try clear hC); (try clear hI); (try clear hf); (try clear hn); (try clear hg); (try clear hb); (try clear ho1); (try clear ho2); grind) | grind)), (show k + 1 ≤ 4 by (first | ((try clear T); (try clear h1); (try clear h2); (try clear hC); (try clear hI); (try clear hf); (try clear hn); (try clear hg); (try clear hb); (try clear ho1); (try clear ho2); grind) | grind))⟩
    · rw [if_neg e] at ho1 ho2
      refine hb _ _ _ _ ?_ ho1 ho2
      exact ⟨rfl, (show 0 ≤ k by (first | ((try clear T); (try clear h1); (try clear h2); (try clear hC); (try clear hI); (try clear hf); (try clear hn); (try clear hg); (try clear hb); (try clear ho1); (try clear ho2); grind) | grind)), (show k < cF by (first | ((try clear T); (try clear h1); (try clear h2); (try clear hC); (try clear hI); (try clear hf); (try clear hn); (try clear hg); (try clear hb); (try clear ho1); (try clear ho2); grind) | grind)), (show 1 ≤ k + 1 by (first | ((try clear T); (try clear h1); (try clear h2); (try clear hC); (try clear hI); (try clear hf); (try clear hn); (try clear hg); (try clear hb); (try clear ho1); (try clear ho2); grind) | grind)), (show k + 1 ≤ 4 by (first | ((try clear T); (try clear h1); (try clear h2); (try clear hC); (try clear hI); (try clear hf); (try clear hn); (try clear hg); (try clear hb); (try clear ho1); (try clear ho2); grind) | grind))⟩
/-- one GROUP in another FORMAT, in both -/
theorem zCh_g {cF cc cN inp gc gfr gcl : Int32} {nF nN stp mst prc al made amt op fx jn lets gof gfx gld mF mN mCst mNF mNN mS mM mC mW mO m1 m2 mX mG : Nat → Int32} {mA mB : Nat → Int64} {p f : Int32} {ch ch' t t' : Nat → Int32} (T : zTN cF cc cN inp nF nN stp mst prc al made amt op fx jn lets mF mN mNF mNN mS mM mC mW mCst mO m1 m2 mX mG mA mB) (G : zGp cN gc gfr gcl gof gfx gld fx mG) (C : zCh cN cF gof ch t) (hp : 0 ≤ p ∧ p < cN) (hf : 0 ≤ f ∧ f < cF) (h1 : ∀ i : Int32, 0 ≤ i → i < 14 → ch' i.toNatClampNeg = if i = gof p.toNatClampNeg then f else ch i.toNatClampNeg) (h2 : ∀ i : Int32, 0 ≤ i → i < cN → t' i.toNatClampNeg = if mG i.toNatClampNeg = mG p.toNatClampNeg then f else t i.toNatClampNeg) : zCh cN cF gof ch' t' := by
  obtain ⟨hF, ⟨n1, n2, n3⟩, hC, hz, hp0, hI, hf0, hn, hg⟩ := T
  intro i i0 i1
  obtain ⟨⟨a1, a2⟩, a3, a4, a5⟩ := C i i0 i1
  have eq := zGp_eq n3 hg G ⟨i0, i1⟩ hp
  rw [h1 _ a1 a2, h2 i i0 i1]
  by_cases q : gof i.toNatClampNeg = gof p.toNatClampNeg
  · rw [if_pos q, if_pos (eq.mp q)]
    exact ⟨⟨a1, a2⟩, rfl, hf.1, hf.2⟩
  · rw [if_neg q, if_neg (fun w => q (eq.mpr w))]
    exact ⟨⟨a1, a2⟩, a3, a4, a5⟩
set_option maxHeartbeats 4000000 in
theorem zeq_blame {cF cc cN inp gc gfr gcl mHh mWn mFa mFw : Int32} {nF nN stp mst prc al made amt op fx jn lets gof gfx gld rwd hand mF mN mCst mNF mNN mS mM mC mW mO m1 m2 mX mG mH mTr : Nat → Int32} {rlo rhi mA mB mLe mGe mEr : Nat → Int64} {mWb : Int64} {p1 p2 fa rs fa2 rs2 : Int32} {oth : Nat → Int32} {er0 er2 : Nat → Int64} {x : Int64 × Int32 × Int32 × (Nat → Int64) × (Nat → Int32) × Int32 × Int32 × (Nat → Int64)} {y : Int64 × Int32 × Int32 × Int32 × (Nat → Int32) × (Nat → Int64) × (Nat → Int64) × (Nat → Int64)} (T : zTN cF cc cN inp nF nN stp mst prc al made amt op fx jn lets mF mN mNF mNN mS mM mC mW mCst mO m1 m2 mX mG mA mB) (G : zGp cN gc gfr gcl gof gfx gld fx mG) (R : zRN cN (-1) 0 op made amt rwd rlo rhi) (H : zHN cN cF gcl mHh gof gfx hand mH) (h1 : fn_X11_blame p1 p2 cF cN al gc gcl gof gfx fa rs hand stp op made er0 amt rlo rhi mst oth fa2 rs2 er2 = some x) (h2 : fn_X12_blame p1 p2 mWn mWb mHh mFa mFw mN mW mG mX mH mTr mO m1 m2 mLe mA mB mGe mS mEr mM mF = some y) : x.1 = y.1 := by
  have hN := T.2.1
  have T0 := T
  unfold fn_X11_blame at h1
  unfold fn_X12_blame at h2
  rw [zIsAnsJ hN.2.2, zb_some] at h1
  obtain ⟨w, hw, h2⟩ := zb_s h2
  rw [zIsAnsM T hw, zIsNum (by rw [hN.1]; exact hN.2.1), zb_some, hN.1] at h2
  by_cases d : (0 ≤ p1 ∧ p1 < cN) ∧ ¬ al p1.toNatClampNeg = (-1)
  · rw [if_neg (show ¬ (if (0 ≤ p1 ∧ p1 < cN) ∧ ¬ al p1.toNatClampNeg = (-1) then (1 : Int32) else 0) = 0 by rw [zif1]; exact fun q => q d)] at h1 h2
    obtain ⟨v, hv, h1⟩ := zb_s h1
    by_cases e : 0 ≤ p2 ∧ p2 < cN
    · rw [if_neg (show ¬ (if 0 ≤ p2 ∧ p2 < cN then (1 : Int32) else 0) = 0 by rw [zif1]; exact fun q => q e)] at h2
      obtain ⟨-, h2⟩ := zg_s h2
      obtain ⟨u, hu, h2⟩ := zb_s h2
      rcases zFrM T0 G e hu with ⟨u1, u2⟩ | ⟨u1, u2⟩
      · rcases zFrJ T0 G hv with ⟨v1, _, _⟩ | ⟨_, v2⟩
        · rw [if_neg (by rw [v1]; decide)] at h1
          rw [if_neg (by rw [u1]; decide)] at h2
          obtain ⟨a, ha, h1⟩ := zb_s h1
          obtain ⟨b, hb, h2⟩ := zb_s h2
          have wn : b.2.1 = (-1) := by
            unfold fn_X12_handPasses at hb
            by_cases z1 : mHh = 0
            · rw [if_pos z1] at hb; rw [← Option.some.inj hb]
            · rw [if_neg z1] at hb
              by_cases z2 : mN (0 : Int32).toNatClampNeg = 0
              · rw [if_pos z2] at hb; rw [← Option.some.inj hb]
              · rw [if_neg z2] at hb
                obtain ⟨_, _, hb⟩ := zb_s hb
                obtain ⟨_, _, hb⟩ := zb_s hb
                rw [← Option.some.inj hb]
          rcases zHandP T R H ha hb with ⟨_, z1, z2⟩ | ⟨c, ⟨e1, e2, e3, e4⟩, tr⟩
          · rw [if_pos z1] at h1
            rw [if_pos z2] at h2
            rw [← Option.some.inj h1, ← Option.some.inj h2]
          · dsimp only at e1 e2 e3
            rcases e4 with ⟨w1, _, _, w2⟩ | ⟨w1, _⟩
            · rw [if_neg (by rw [w1]; decide)] at h1
              rw [if_neg (by rw [← e1, w1]; decide)] at h2
              obtain ⟨cp, hcp, h1⟩ := zb_s h1
              obtain ⟨-, h1⟩ := zg_s h1
              obtain ⟨fi, hfi, h1⟩ := zb_s h1
              obtain ⟨-, h1⟩ := zg_s h1
              obtain ⟨rr, hrr, h1⟩ := zb_s h1
              obtain ⟨-, h2⟩ := zg_s h2
              obtain ⟨fm, hfm, h2⟩ := zb_s h2
              obtain ⟨tg, htg, h2⟩ := zb_s h2
              obtain ⟨pp, hpp, h2⟩ := zb_s h2
              have cF0 : 0 < cF := T0.2.2.2.2.1 c.1
              obtain ⟨q1, q2, q3⟩ := zFinest T0 cF0 hfi hfm
              rw [← q1] at htg
              obtain ⟨C, -⟩ := H.2.2 c.1 c.2
              have cc := zCopyC hcp
              obtain ⟨⟨g1, g2⟩, -⟩ := C p2 e.1 e.2
              have C2 := zCh_g T0 G (zCh_c C tr) e ⟨q2, q3⟩ (ch' := upd cp (gof p2.toNatClampNeg).toNatClampNeg fi) (fun i i0 i1 => by rw [zup g1 i0, cc i i0 i1]) (zTrG hN htg)
              rw [wn] at hpp
              obtain ⟨y1, y2, y3, y4⟩ := zPassEq (wd := rwd) T0 (zRN_1 R) (Or.inl rfl) C2 hrr hpp
              rcases y4 with ⟨k1, _, _, k2⟩ | ⟨k1, _⟩
              · rw [if_neg (by rw [k1]; decide)] at h1
                rw [if_neg (by rw [← y1, k1]; decide)] at h2
                obtain ⟨-, h1⟩ := zg_s h1
                rw [← Option.some.inj h1, ← Option.some.inj h2]
                show a.2.2.2 p1.toNatClampNeg - rr.2.2.2 p1.toNatClampNeg = _
                have s1 := (w2 p1 d.1.1 d.1.2).1
                have s2 := (k2 p1 d.1.1 d.1.2).1
                dsimp only at s1 s2
                rw [s1, s2]
              · rw [if_pos k1] at h1
                rw [if_pos (y1.symm.trans k1)] at h2
                rw [← Option.some.inj h1, ← Option.some.inj h2]
            · rw [if_pos w1] at h1
              rw [if_pos (e1.symm.trans w1)] at h2
              rw [← Option.some.inj h1, ← Option.some.inj h2]
        · exact absurd ⟨e, u2⟩ v2
      · rcases zFrJ T0 G hv with ⟨_, _, v2⟩ | ⟨v1, _⟩
        · exact absurd v2 u2
        · rw [if_pos v1] at h1
          rw [if_pos u1] at h2
          rw [← Option.some.inj h1, ← Option.some.inj h2]
    · rw [if_pos (show (if 0 ≤ p2 ∧ p2 < cN then (1 : Int32) else 0) = 0 by rw [zif1]; exact e)] at h2
      rcases zFrJ T0 G hv with ⟨_, v2, _⟩ | ⟨v1, _⟩
      · exact absurd v2 e
      · rw [if_pos v1] at h1
        rw [← Option.some.inj h1, ← Option.some.inj h2]
  · rw [if_pos (show (if (0 ≤ p1 ∧ p1 < cN) ∧ ¬ al p1.toNatClampNeg = (-1) then (1 : Int32) else 0) = 0 by rw [zif1]; exact d)] at h1 h2
    rw [← Option.some.inj h1, ← Option.some.inj h2]
set_option maxHeartbeats 4000000 in
theorem zeq_certificate {cF cc cN inp gcl mHh mFa mFw : Int32} {nF nN stp mst prc al made amt op fx jn lets gof gfx rwd hand mF mN mCst mNF mNN mS mM mC mW mO m1 m2 mX mG mH mTr : Nat → Int32} {rlo rhi mA mB mLe mGe mEr : Nat → Int64} {mWb : Int64} {p1 fa rs : Int32} {er0 : Nat → Int64} {x : Int32 × Int32 × Int32 × (Nat → Int64)} {y : Int32 × Int32 × Int32 × Int32 × (Nat → Int32) × (Nat → Int64) × (Nat → Int64) × (Nat → Int64)} (T : zTN cF cc cN inp nF nN stp mst prc al made amt op fx jn lets mF mN mNF mNN mS mM mC mW mCst mO m1 m2 mX mG mA mB) (R : zRN cN (-1) 0 op made amt rwd rlo rhi) (H : zHN cN cF gcl mHh gof gfx hand mH) (h1 : fn_X11_certificate p1 cF cN gcl fa rs gof hand stp op made er0 amt rlo rhi mst al = some x) (h2 : fn_X12_certificate p1 mWb mHh mFa mFw mN mH mTr mO m1 m2 mLe mA mB mGe mS mEr mM mW = some y) : x.1 = y.1 := by
  have hN := T.2.1
  unfold fn_X11_certificate at h1
  unfold fn_X12_certificate at h2
  obtain ⟨b, hb, h2⟩ := zb_s h2
  have e25 : (0 : Int32) ≤ 25 * cN ∧ 25 * cN ≤ 350 := by have := hN.2; (first | ((try clear T); (try clear R); (try clear H); (try clear h1); (try clear h2); (try clear hb); grind) | grind)
  simp only [zn01.1, hN.1, zIsIn, zb_some, z64_ge0, z64_ltm _ _ e25.1] at h2
  by_cases d : 0 ≤ p1 ∧ p1 < 25 * cN
  · rw [if_neg (by (first | ((try clear T); (try clear R); (try clear H); (try clear h1); (try clear h2); (try clear hb); grind) | grind)), if_neg (by (first | ((try clear T); (try clear R); (try clear H); (try clear h1); (try clear h2); (try clear hb); grind) | grind))] at h1
    obtain ⟨a, ha, h1⟩ := zb_s h1
    rw [if_neg (show ¬ (if 0 ≤ p1 ∧ p1 < 25 * cN then (1 : Int32) else 0) = 0 by rw [zif1]; exact fun q => q d)] at h2
    obtain ⟨m1, m2, m3, m4⟩ := zdiv25 p1 d.1 (by (first | ((try clear T); (try clear R); (try clear H); (try clear h1); (try clear h2); (try clear hb); (try clear ha); grind) | grind))
    have mn : p1 / 25 < cN := by
      have k1 := Int32.le_iff_toInt_le.mp d.1
      have k2 := Int32.lt_iff_toInt_lt.mp d.2
      have k3 := Int32.le_iff_toInt_le.mp hN.2.1
      have k4 := Int32.le_iff_toInt_le.mp hN.2.2
      rw [zi_0] at k1 k3
      rw [show (14 : Int32).toInt = 14 by decide +kernel] at k4
      have e1 := zo_idiv (x := p1) (y := 25) (z := p1 / 25) rfl rfl (show (25 : Int32).toInt = 25 by decide +kernel) ⟨k1, by omega⟩
      have e2 := zo_mul (x := 25) (y := cN) (z := 25 * cN) rfl (show (25 : Int32).toInt = 25 by decide +kernel) rfl (by omega)
      exact Int32.lt_iff_toInt_lt.mpr (by rw [e1]; omega)
    generalize p1 - p1 / 25 * 25 = at_ at h1 h2 m3 m4
    generalize p1 / 25 = nr at h1 h2 m1 m2 mn
    rcases zHandP T R H ha hb with ⟨_, z1, z2⟩ | ⟨c, ⟨e1, e2, e3, e4⟩, tr⟩
    · rw [if_pos z1] at h1
      rw [if_pos z2] at h2
      rw [← Option.some.inj h1, ← Option.some.inj h2]
    · dsimp only at e1 e2 e3
      rcases e4 with ⟨w1, _, _, w2⟩ | ⟨w1, _⟩
      · rw [if_neg (by rw [w1]; decide)] at h1
        rw [if_neg (by rw [← e1, w1]; decide)] at h2
        obtain ⟨s1, s2, s3, -⟩ := w2 nr m1 mn
        dsimp only at s1 s2 s3
        obtain ⟨C, -⟩ := H.2.2 c.1 c.2
        by_cases t0 : at_ = 0
        · rw [if_pos t0, zFmtOf hN.2.2 C ⟨m1, mn⟩, zb_some] at h1
          rw [if_pos t0] at h2
          obtain ⟨-, h2⟩ := zg_s h2
          rw [← Option.some.inj h1, ← Option.some.inj h2]
        · rw [if_neg t0] at h1 h2
          by_cases t1 : 8 < at_
          · rw [if_pos t1] at h1
            rw [if_pos (by (first | ((try clear T); (try clear R); (try clear H); (try clear h1); (try clear h2); (try clear hb); (try clear ha); grind) | grind))] at h2
            by_cases t2 : 16 < at_
            · rw [if_pos t2] at h1
              rw [if_pos (by (first | ((try clear T); (try clear R); (try clear H); (try clear h1); (try clear h2); (try clear hb); (try clear ha); grind) | grind))] at h2
              obtain ⟨-, h1⟩ := zg_s h1
              obtain ⟨-, h2⟩ := zg_s h2
              rw [s1] at h1
              obtain ⟨u, hu, h1⟩ := zb_s h1
              obtain ⟨v, hv, h2⟩ := zb_s h2
              rw [← Option.some.inj h1, ← Option.some.inj h2]
              exact Option.some.inj (hu.symm.trans hv)
            · rw [if_neg t2] at h1
              rw [if_neg (by (first | ((try clear T); (try clear R); (try clear H); (try clear h1); (try clear h2); (try clear hb); (try clear ha); (try clear hu); (try clear hv); grind) | grind))] at h2
              obtain ⟨-, h1⟩ := zg_s h1
              obtain ⟨-, h2⟩ := zg_s h2
              rw [s3] at h2
              obtain ⟨u, hu, h1⟩ := zb_s h1
              obtain ⟨v, hv, h2⟩ := zb_s h2
              rw [← Option.some.inj h1, ← Option.some.inj h2]
              exact Option.some.inj (hu.symm.trans hv)
          · rw [if_neg t1] at h1
            rw [if_neg (by (first | ((try clear T); (try clear R); (try clear H); (try clear h1); (try clear h2); (try clear hb); (try clear ha); (try clear hu); (try clear hv); grind) | grind))] at h2
            obtain ⟨-, h1⟩ := zg_s h1
            obtain ⟨-, h2⟩ := zg_s h2
            rw [s2] at h2
            obtain ⟨u, hu, h1⟩ := zb_s h1
            obtain ⟨v, hv, h2⟩ := zb_s h2
            rw [← Option.some.inj h1, ← Option.some.inj h2]
            exact Option.some.inj (hu.symm.trans hv)
      · rw [if_pos w1] at h1
        rw [if_pos (e1.symm.trans w1)] at h2
        rw [← Option.some.inj h1, ← Option.some.inj h2]
  · rw [if_pos (show (if 0 ≤ p1 ∧ p1 < 25 * cN then (1 : Int32) else 0) = 0 by rw [zif1]; exact d)] at h2
    have ex : x.1 = (-1) := by
      by_cases z : p1 < 0
      · rw [if_pos z] at h1; rw [← Option.some.inj h1]
      · rw [if_neg z, if_pos (by (first | ((try clear T); (try clear R); (try clear H); (try clear h1); (try clear h2); (try clear hb); (try clear ha); (try clear hu); (try clear hv); grind) | grind))] at h1; rw [← Option.some.inj h1]
    have ey : y.1 = (-1) := by
      by_cases z : b.1 = 0
      · rw [if_pos z] at h2; rw [← Option.some.inj h2]
      · rw [if_neg z] at h2; rw [← Option.some.inj h2]
    rw [ex, ey]
/-! the CHOICE with which a TASK begins -/
noncomputable def zNC (cN : Int32) (mG fx : Nat → Int32) (m : Int32) : Prop := ∀ k o : Int32, 0 ≤ k → k < m → 0 ≤ o → o < cN → mG o.toNatClampNeg = mG k.toNatClampNeg → ¬ fx k.toNatClampNeg = (-1) → fx o.toNatClampNeg = (-1) ∨ fx o.toNatClampNeg = fx k.toNatClampNeg
theorem zNC_g {cN gc gfr gcl : Int32} {fx jn gof gfx gld mG : Nat → Int32} (hN : cN ≤ 14) (hg : zG0 cN jn mG) (G : zGp cN gc gfr gcl gof gfx gld fx mG) : gcl = 0 ↔ zNC cN mG fx cN := by
  obtain ⟨⟨g1, g2, g3, g4, g5, g6⟩, -⟩ := G
  constructor
  · intro q k o k0 k1 o0 o1 e ne
    obtain ⟨l1, l2, l3⟩ := hg.1 k k0 k1
    have n2 := g5 q (mG k.toNatClampNeg) l1 (by (first | ((try clear hg); (try clear G); grind) | grind)) l3
    rcases (g3 (mG k.toNatClampNeg) l1 (by (first | ((try clear hg); (try clear G); grind) | grind)) l3).2 with ⟨_, f⟩ | ⟨f, _⟩ | ⟨_, _, f⟩
    · exact absurd (f k k0 k1 rfl) ne
    · exact absurd f n2
    · have a := (f k k0 k1 rfl).resolve_left ne
      rcases f o o0 o1 e with b | b
      · exact Or.inl b
      · exact Or.inr (b.trans a.symm)
  · intro q
    rcases g4 with z | z
    · exact z
    · obtain ⟨j, j0, j1, j2, j3⟩ := g6 z
      rcases (g3 j j0 j1 j2).2 with ⟨f, _⟩ | ⟨_, o, p, b1, b2, b3, b4, b5, b6, b7, b8, b9⟩ | ⟨f, _⟩
      · rw [j3] at f; exact absurd f (by decide)
      · rcases q o p b1 b2 b3 b4 (b6.trans b5.symm) b7 with w | w
        · exact absurd w b8
        · exact absurd w.symm b9
      · rw [j3] at f; exact absurd f (by decide)
noncomputable def zBg (cN m : Int32) (mG fx : Nat → Int32) (o v : Int32) : Prop := (∀ k : Int32, 0 ≤ k → k < m → mG k.toNatClampNeg = mG o.toNatClampNeg → fx k.toNatClampNeg = (-1)) ∧ v = 0 ∨ (∃ k : Int32, 0 ≤ k ∧ k < m ∧ mG k.toNatClampNeg = mG o.toNatClampNeg ∧ ¬ fx k.toNatClampNeg = (-1) ∧ v = fx k.toNatClampNeg)
set_option maxHeartbeats 4000000 in
theorem zBegin {cN : Int32} {mN mX mG mH : Nat → Int32} {x : Int32 × (Nat → Int32)} (hN : mN 0 = cN ∧ 0 ≤ cN ∧ cN ≤ 14) (h : fn_X12_beginsChoice mN mH mX mG = some x) : (x.1 = 1 ∧ zNC cN mG mX cN ∨ x.1 = 0 ∧ ¬ zNC cN mG mX cN) ∧ (∀ o : Int32, 0 ≤ o → o < cN → zBg cN cN mG mX o (x.2 o.toNatClampNeg)) := by
  unfold fn_X12_beginsChoice at h
  rw [zn01.1, hN.1] at h
  refine zl_ip (P := fun x : Int32 × (Nat → Int32) => (x.1 = 1 ∧ zNC cN mG mX cN ∨ x.1 = 0 ∧ ¬ zNC cN mG mX cN) ∧ (∀ o : Int32, 0 ≤ o → o < cN → zBg cN cN mG mX o (x.2 o.toNatClampNeg))) (fun s => 0 ≤ s.1 ∧ s.1 ≤ cN ∧ ∀ o : Int32, 0 ≤ o → o < s.1 → s.2 o.toNatClampNeg = 0) ?_ _ _ _ ?_ h
  rotate_left
  · exact ⟨(show (0 : Int32) ≤ 0 by decide), hN.2.1, fun o o0 o1 => absurd o1 (by show ¬ o < 0; (first | ((try clear h); grind) | grind))⟩
  intro s back o ⟨H1, H2, H3⟩ hb ho
  by_cases c : cN ≤ s.1
  · rw [if_pos c] at ho
    have e : s.1 = cN := by (first | ((try clear h); (try clear hb); (try clear ho); grind) | grind)
    rw [e] at H3
    refine zl_ip (P := fun x : Int32 × (Nat → Int32) => (x.1 = 1 ∧ zNC cN mG mX cN ∨ x.1 = 0 ∧ ¬ zNC cN mG mX cN) ∧ (∀ o : Int32, 0 ≤ o → o < cN → zBg cN cN mG mX o (x.2 o.toNatClampNeg))) (fun t => 0 ≤ t.1 ∧ t.1 ≤ cN ∧ (t.2.1 = 1 ∧ zNC cN mG mX t.1 ∨ t.2.1 = 0 ∧ ¬ zNC cN mG mX t.1) ∧ (∀ o : Int32, 0 ≤ o → o < cN → zBg cN t.1 mG mX o (t.2.2 o.toNatClampNeg))) ?_ _ _ _ ?_ ho
    rotate_left
    · exact ⟨(show (0 : Int32) ≤ 0 by decide), hN.2.1, Or.inl ⟨rfl, fun k o k0 k1 => absurd k1 (by show ¬ k < 0; (first | ((try clear h); (try clear hb); (try clear ho); grind) | grind))⟩, fun o o0 o1 => Or.inl ⟨fun k k0 k1 => absurd k1 (by show ¬ k < 0; (first | ((try clear h); (try clear hb); (try clear ho); grind) | grind)), H3 o o0 o1⟩⟩
    intro t back2 o2 ⟨K1, K2, K3, K4⟩ hb2 ho2
    by_cases c2 : cN ≤ t.1
    · rw [if_pos c2] at ho2
      have e2 : t.1 = cN := by (first | ((try clear h); (try clear hb); (try clear ho); (try clear ho2); grind) | grind)
      rw [e2] at K3 K4
      rw [← Option.some.inj ho2]
      exact ⟨K3, K4⟩
    · rw [if_neg c2] at ho2
      obtain ⟨-, ho2⟩ := zg_s ho2
      have hs : ∀ k : Int32, k < t.1 + 1 → k = t.1 ∨ k < t.1 := fun k hk => by (first | ((try clear h); (try clear hb); (try clear ho); (try clear ho2); (try clear hs); grind) | grind)
      have hl : ∀ k : Int32, k < t.1 → k < t.1 + 1 := fun k hk => by (first | ((try clear h); (try clear hb); (try clear ho); (try clear ho2); (try clear hs); (try clear hl); grind) | grind)
      have ti : t.1 < t.1 + 1 := by (first | ((try clear h); (try clear hb); (try clear ho); (try clear ho2); (try clear hs); (try clear hl); grind) | grind)
      by_cases d : mX t.1.toNatClampNeg = (-1)
      · rw [if_pos d] at ho2
        refine hb2 _ _ ?_ ho2
        have nc : zNC cN mG mX (t.1 + 1) ↔ zNC cN mG mX t.1 := by
          constructor
          · intro q k o k0 k1
            exact q k o k0 (hl k k1)
          · intro q k o k0 k1 o0 o1 e1 ne
            rcases hs k k1 with w | w
            · rw [w] at ne; exact absurd d ne
            · exact q k o k0 w o0 o1 e1 ne
        refine ⟨(show 0 ≤ t.1 + 1 by (first | ((try clear h); (try clear hb); (try clear ho); (try clear ho2); (try clear hs); (try clear hl); grind) | grind)), (show t.1 + 1 ≤ cN by (first | ((try clear h); (try clear hb); (try clear ho); (try clear ho2); (try clear hs); (try clear hl); grind) | grind)), (by rw [← nc] at K3; exact K3), fun o o0 o1 => ?_⟩
        show zBg cN (t.1 + 1) mG mX o (t.2.2 o.toNatClampNeg)
        rcases K4 o o0 o1 with ⟨a1, a2⟩ | ⟨k, b1, b2, b3⟩
        · refine Or.inl ⟨fun k k0 k1 k2 => ?_, a2⟩
          rcases hs k k1 with w | w
          · rw [w]; exact d
          · exact a1 k k0 w k2
        · exact Or.inr ⟨k, b1, hl k b2, b3⟩
      · rw [if_neg d] at ho2
        refine zl_ip (P := fun x : Int32 × (Nat → Int32) => (x.1 = 1 ∧ zNC cN mG mX cN ∨ x.1 = 0 ∧ ¬ zNC cN mG mX cN) ∧ (∀ o : Int32, 0 ≤ o → o < cN → zBg cN cN mG mX o (x.2 o.toNatClampNeg))) (fun v => 0 ≤ v.1 ∧ v.1 ≤ cN ∧ (v.2.1 = 1 ∧ (zNC cN mG mX t.1 ∧ ∀ o : Int32, 0 ≤ o → o < v.1 → mG o.toNatClampNeg = mG t.1.toNatClampNeg → mX o.toNatClampNeg = (-1) ∨ mX o.toNatClampNeg = mX t.1.toNatClampNeg) ∨ v.2.1 = 0 ∧ ¬ (zNC cN mG mX t.1 ∧ ∀ o : Int32, 0 ≤ o → o < v.1 → mG o.toNatClampNeg = mG t.1.toNatClampNeg → mX o.toNatClampNeg = (-1) ∨ mX o.toNatClampNeg = mX t.1.toNatClampNeg)) ∧ (∀ o : Int32, 0 ≤ o → o < cN → (o < v.1 → zBg cN (t.1 + 1) mG mX o (v.2.2 o.toNatClampNeg)) ∧ (v.1 ≤ o → zBg cN t.1 mG mX o (v.2.2 o.toNatClampNeg)))) ?_ _ _ _ ?_ ho2
        rotate_left
        · exact ⟨(show (0 : Int32) ≤ 0 by decide), hN.2.1, K3.imp (fun q => ⟨q.1, q.2, fun o o0 o1 => absurd o1 (by show ¬ o < 0; (first | ((try clear h); (try clear hb); (try clear ho); (try clear ho2); (try clear hs); (try clear hl); grind) | grind))⟩) (fun q => ⟨q.1, fun w => q.2 w.1⟩), fun o o0 o1 => ⟨fun w => absurd w (by show ¬ o < 0; (first | ((try clear h); (try clear hb); (try clear ho); (try clear ho2); (try clear hs); (try clear hl); grind) | grind)), fun _ => K4 o o0 o1⟩⟩
        intro v back3 o3 ⟨L1, L2, L3, L4⟩ hb3 ho3
        by_cases c3 : cN ≤ v.1
        · rw [if_pos c3] at ho3
          have e3 : v.1 = cN := by (first | ((try clear h); (try clear hb); (try clear ho); (try clear ho2); (try clear hs); (try clear hl); grind) | grind)
          refine hb2 _ _ ?_ ho3
          rw [e3] at L3 L4
          have nc : zNC cN mG mX (t.1 + 1) ↔ (zNC cN mG mX t.1 ∧ ∀ o : Int32, 0 ≤ o → o < cN → mG o.toNatClampNeg = mG t.1.toNatClampNeg → mX o.toNatClampNeg = (-1) ∨ mX o.toNatClampNeg = mX t.1.toNatClampNeg) := by
            constructor
            · intro q
              exact ⟨fun k o k0 k1 => q k o k0 (hl k k1), fun o o0 o1 o2 => q t.1 o K1 ti o0 o1 o2 d⟩
            · intro ⟨q1, q2⟩ k o k0 k1 o0 o1 e1 ne
              rcases hs k k1 with w | w
              · rw [w] at e1 ⊢; exact q2 o o0 o1 e1
              · exact q1 k o k0 w o0 o1 e1 ne
          rw [← nc] at L3
          exact ⟨(show 0 ≤ t.1 + 1 by (first | ((try clear h); (try clear hb); (try clear ho); (try clear ho2); (try clear hs); (try clear hl); (try clear nc); grind) | grind)), (show t.1 + 1 ≤ cN by (first | ((try clear h); (try clear hb); (try clear ho); (try clear ho2); (try clear hs); (try clear hl); (try clear nc); grind) | grind)), L3, fun o o0 o1 => (L4 o o0 o1).1 o1⟩
        · rw [if_neg c3] at ho3
          obtain ⟨-, ho3⟩ := zg_s ho3
          obtain ⟨-, ho3⟩ := zg_s ho3
          have hs3 : ∀ k : Int32, k < v.1 + 1 → k = v.1 ∨ k < v.1 := fun k hk => by (first | ((try clear h); (try clear hb); (try clear ho); (try clear ho2); (try clear hs); (try clear hl); (try clear nc); (try clear ho3); (try clear hs3); grind) | grind)
          -- a NUMBER of the same GROUP
          have same : ∀ f : Int32, mG v.1.toNatClampNeg = mG t.1.toNatClampNeg → (f = 1 ∧ (zNC cN mG mX t.1 ∧ ∀ o : Int32, 0 ≤ o → o < v.1 + 1 → mG o.toNatClampNeg = mG t.1.toNatClampNeg → mX o.toNatClampNeg = (-1) ∨ mX o.toNatClampNeg = mX t.1.toNatClampNeg) ∨ f = 0 ∧ ¬ (zNC cN mG mX t.1 ∧ ∀ o : Int32, 0 ≤ o → o < v.1 + 1 → mG o.toNatClampNeg = mG t.1.toNatClampNeg → mX o.toNatClampNeg = (-1) ∨ mX o.toNatClampNeg = mX t.1.toNatClampNeg)) → back3 (v.1 + 1, f, upd v.2.2 v.1.toNatClampNeg (mX t.1.toNatClampNeg)) = some o3 → (o3.1 = 1 ∧ zNC cN mG mX cN ∨ o3.1 = 0 ∧ ¬ zNC cN mG mX cN) ∧ (∀ o : Int32, 0 ≤ o → o < cN → zBg cN cN mG mX o (o3.2 o.toNatClampNeg)) := by
            intro f eg hf hk
            refine hb3 _ _ ?_ hk
            refine ⟨(show 0 ≤ v.1 + 1 by (first | ((try clear h); (try clear hb); (try clear ho); (try clear ho2); (try clear hs); (try clear hl); (try clear nc); (try clear ho3); (try clear hs3); (try clear same); grind) | grind)), (show v.1 + 1 ≤ cN by (first | ((try clear h); (try clear hb); (try clear ho); (try clear ho2); (try clear hs); (try clear hl); (try clear nc); (try clear ho3); (try clear hs3); (try clear same); grind) | grind)), hf, fun o o0 o1 => ⟨fun w => ?_, fun w => ?_⟩⟩
            · have w : o < v.1 + 1 := w
              show zBg cN (t.1 + 1) mG mX o (upd v.2.2 v.1.toNatClampNeg (mX t.1.toNatClampNeg) o.toNatClampNeg)
              rw [zup L1 o0]
              by_cases z : o = v.1
              · rw [if_pos z]
                exact Or.inr ⟨t.1, K1, ti, by rw [z]; exact eg.symm, d, rfl⟩
              · rw [if_neg z]; exact (L4 o o0 o1).1 (by (first | ((try clear h); (try clear hb); (try clear ho); (try clear ho2); (try clear hs); (try clear hl); (try clear nc); (try clear ho3); (try clear hs3); (try clear same); grind) | grind))
            · have w : v.1 + 1 ≤ o := w
              show zBg cN t.1 mG mX o (upd v.2.2 v.1.toNatClampNeg (mX t.1.toNatClampNeg) o.toNatClampNeg)
              rw [zup L1 o0, if_neg (by (first | ((try clear h); (try clear hb); (try clear ho); (try clear ho2); (try clear hs); (try clear hl); (try clear nc); (try clear ho3); (try clear hs3); (try clear same); grind) | grind))]
              exact (L4 o o0 o1).2 (by (first | ((try clear h); (try clear hb); (try clear ho); (try clear ho2); (try clear hs); (try clear hl); (try clear nc); (try clear ho3); (try clear hs3); (try clear same); grind) | grind))
          by_cases eg : mG v.1.toNatClampNeg = mG t.1.toNatClampNeg
          · rw [if_pos eg] at ho3
            obtain ⟨-, ho3⟩ := zg_s ho3
            have cond : (zNC cN mG mX t.1 ∧ ∀ o : Int32, 0 ≤ o → o < v.1 + 1 → mG o.toNatClampNeg = mG t.1.toNatClampNeg → mX o.toNatClampNeg = (-1) ∨ mX o.toNatClampNeg = mX t.1.toNatClampNeg) ↔ (zNC cN mG mX t.1 ∧ ∀ o : Int32, 0 ≤ o → o < v.1 → mG o.toNatClampNeg = mG t.1.toNatClampNeg → mX o.toNatClampNeg = (-1) ∨ mX o.toNatClampNeg = mX t.1.toNatClampNeg) ∧ (mX v.1.toNatClampNeg = (-1) ∨ mX v.1.toNatClampNeg = mX t.1.toNatClampNeg) := by
              constructor
              · intro ⟨q1, q2⟩
                exact ⟨⟨q1, fun o o0 o1 => q2 o o0 (by (first | ((try clear h); (try clear hb); (try clear ho); (try clear ho2); (try clear hs); (try clear hl); (try clear nc); (try clear ho3); (try clear hs3); (try clear same); (try clear cond); grind) | grind))⟩, q2 v.1 L1 (by (first | ((try clear h); (try clear hb); (try clear ho); (try clear ho2); (try clear hs); (try clear hl); (try clear nc); (try clear ho3); (try clear hs3); (try clear same); (try clear cond); grind) | grind)) eg⟩
              · intro ⟨⟨q1, q2⟩, q3⟩
                refine ⟨q1, fun o o0 o1 o2 => ?_⟩
                rcases hs3 o o1 with z | z
                · rw [z]; exact q3
                · exact q2 o o0 z o2
            rcases L3 with ⟨a1, a2⟩ | ⟨a1, a2⟩
            · rw [if_neg (by rw [a1]; decide)] at ho3
              by_cases z : mX v.1.toNatClampNeg = (-1)
              · rw [if_pos z] at ho3
                exact same 1 eg (Or.inl ⟨rfl, cond.mpr ⟨a2, Or.inl z⟩⟩) ho3
              · rw [if_neg z] at ho3
                by_cases z2 : mX v.1.toNatClampNeg = mX t.1.toNatClampNeg
                · rw [if_pos z2] at ho3
                  exact same 1 eg (Or.inl ⟨rfl, cond.mpr ⟨a2, Or.inr z2⟩⟩) ho3
                · rw [if_neg z2] at ho3
                  exact same 0 eg (Or.inr ⟨rfl, fun q => (cond.mp q).2.elim z z2⟩) ho3
            · rw [if_pos a1] at ho3
              exact same 0 eg (Or.inr ⟨rfl, fun q => a2 (cond.mp q).1⟩) ho3
          · rw [if_neg eg] at ho3
            refine hb3 _ _ ?_ ho3
            have cond : (zNC cN mG mX t.1 ∧ ∀ o : Int32, 0 ≤ o → o < v.1 + 1 → mG o.toNatClampNeg = mG t.1.toNatClampNeg → mX o.toNatClampNeg = (-1) ∨ mX o.toNatClampNeg = mX t.1.toNatClampNeg) ↔ (zNC cN mG mX t.1 ∧ ∀ o : Int32, 0 ≤ o → o < v.1 → mG o.toNatClampNeg = mG t.1.toNatClampNeg → mX o.toNatClampNeg = (-1) ∨ mX o.toNatClampNeg = mX t.1.toNatClampNeg) := by
              constructor
              · intro ⟨q1, q2⟩
                exact ⟨q1, fun o o0 o1 => q2 o o0 (by (first | ((try clear h); (try clear hb); (try clear ho); (try clear ho2); (try clear hs); (try clear hl); (try clear nc); (try clear ho3); (try clear hs3); (try clear same); (try clear cond); grind) | grind))⟩
              · intro ⟨q1, q2⟩
                refine ⟨q1, fun o o0 o1 o2 => ?_⟩
                rcases hs3 o o1 with z | z
                · rw [z] at o2; exact absurd o2 eg
                · exact q2 o o0 z o2
            rw [← cond] at L3
            refine ⟨(show 0 ≤ v.1 + 1 by (first | ((try clear h); (try clear hb); (try clear ho); (try clear ho2); (try clear hs); (try clear hl); (try clear nc); (try clear ho3); (try clear hs3); (try clear same); (try clear cond); grind) | grind)), (show v.1 + 1 ≤ cN by (first | ((try clear h); (try clear hb); (try clear ho); (try clear ho2); (try clear hs); (try clear hl); (try clear nc); (try clear ho3); (try clear hs3); (try clear same); (try clear cond); grind) | grind)), L3, fun o o0 o1 => ⟨fun w => ?_, fun w => (L4 o o0 o1).2 (by have w : v.1 + 1 ≤ o := w; (first | ((try clear h); (try clear hb); (try clear ho); (try clear ho2); (try clear hs); (try clear hl); (try clear nc); (try clear ho3); (try clear hs3); (try clear same); (try clear cond); grind) | grind))⟩⟩
            have w : o < v.1 + 1 := w
            show zBg cN (t.1 + 1) mG mX o (v.2.2 o.toNatClampNeg)
            rcases hs3 o w with z | z
            · rcases (L4 o o0 o1).2 (by (first | ((try clear h); (try clear hb); (try clear ho); (try clear ho2); (try clear hs); (try clear hl); (try clear nc); (try clear ho3); (try clear hs3); (try clear same); (try clear cond); grind) | grind)) with ⟨b1, b2⟩ | ⟨k, b1, b2, b3⟩
              · refine Or.inl ⟨fun k k0 k1 k2 => ?_, b2⟩
                rcases hs k k1 with y | y
                · rw [y, z] at k2; exact absurd k2.symm eg
                · exact b1 k k0 y k2
              · exact Or.inr ⟨k, b1, hl k b2, b3⟩
            · exact (L4 o o0 o1).1 z
  · rw [if_neg c] at ho
    obtain ⟨-, ho⟩ := zg_s ho
    refine hb _ _ ?_ ho
    refine ⟨(show 0 ≤ s.1 + 1 by (first | ((try clear h); (try clear hb); (try clear ho); (try clear ho2); (try clear hs); (try clear hl); (try clear nc); (try clear ho3); (try clear hs3); (try clear same); (try clear cond); grind) | grind)), (show s.1 + 1 ≤ cN by (first | ((try clear h); (try clear hb); (try clear ho); (try clear ho2); (try clear hs); (try clear hl); (try clear nc); (try clear ho3); (try clear hs3); (try clear same); (try clear cond); grind) | grind)), fun o o0 o1 => ?_⟩
    have o1 : o < s.1 + 1 := o1
    show upd s.2 s.1.toNatClampNeg 0 o.toNatClampNeg = 0
    rw [zup H1 o0]
    by_cases q : o = s.1
    · rw [if_pos q]
    · rw [if_neg q]; exact H3 o o0 (by (first | ((try clear h); (try clear hb); (try clear ho); (try clear ho2); (try clear hs); (try clear hl); (try clear nc); (try clear ho3); (try clear hs3); (try clear same); (try clear cond); grind) | grind))
theorem zHN_of {cF cc cN inp gc gfr gcl : Int32} {nF nN stp mst prc al made amt op fx jn lets gof gfx gld hand mF mN mCst mNF mNN mS mM mC mW mO m1 m2 mX mG mH : Nat → Int32} {mA mB : Nat → Int64} {hand' mH' : Nat → Int32} {hh : Int32} (T : zTN cF cc cN inp nF nN stp mst prc al made amt op fx jn lets mF mN mNF mNN mS mM mC mW mCst mO m1 m2 mX mG mA mB) (G : zGp cN gc gfr gcl gof gfx gld fx mG) (h1 : fn_X2_fillFree 0 gc hand gfx = some hand') (h2 : fn_X12_beginsChoice mN mH mX mG = some (hh, mH')) : zHN cN cF gcl hh gof gfx hand' mH' := by
  obtain ⟨⟨f1, f2, f3⟩, hN, hC, hz, hp, hI, hff, hn, hg⟩ := T
  obtain ⟨b1, b2⟩ := zBegin hN h2
  dsimp only at b1 b2
  have nc := zNC_g hN.2.2 hg G
  have ncx : zNC cN mG mX cN ↔ zNC cN mG fx cN := by
    unfold zNC
    constructor
    · intro q k o k0 k1 o0 o1
      rw [(hn k k0 k1).2.2.1, (hn o o0 o1).2.2.1]; exact q k o k0 k1 o0 o1
    · intro q k o k0 k1 o0 o1
      rw [← (hn k k0 k1).2.2.1, ← (hn o o0 o1).2.2.1]; exact q k o k0 k1 o0 o1
  rw [ncx, ← nc] at b1
  have gb := zRk_b (G := mG) (p := cN) hN.2.1 hN.2.2
  rw [← G.1.1] at gb
  have fr := zFillF ⟨gb.1, by (first | ((try clear T); (try clear G); (try clear h1); (try clear h2); (try clear hC); (try clear hI); (try clear hn); (try clear hg); grind) | grind)⟩ h1
  refine ⟨fun _ => b1, fun _ => b1.elim (fun q => Or.inr q.1) (fun q => Or.inl q.1), fun c0 cl => ?_⟩
  have cF0 := hp c0
  have ncf := nc.mp cl
  have gl : ∀ i : Int32, 0 ≤ i → i < cN → (0 ≤ gof i.toNatClampNeg ∧ gof i.toNatClampNeg < 14) ∧ gof i.toNatClampNeg < gc := by
    intro i i0 i1
    obtain ⟨l1, l2, l3⟩ := hg.1 i i0 i1
    have b1 := zRk_lt (G := mG) l1 (show mG i.toNatClampNeg < cN by (first | ((try clear T); (try clear G); (try clear h1); (try clear h2); (try clear hC); (try clear hI); (try clear hn); (try clear hg); (try clear gl); grind) | grind)) hN.2.2 l3
    rw [← G.1.1, ← G.1.2.1 i i0 i1] at b1
    exact ⟨zGofR hN.2.2 hg G ⟨i0, i1⟩, b1⟩
  refine ⟨fun i i0 i1 => ?_, fun i i0 i1 i2 => ?_⟩
  · obtain ⟨a1, a2⟩ := gl i i0 i1
    refine ⟨a1, ?_⟩
    rw [fr _ a1.1 a2]
    have F := zGp_fx hN.2.2 hg G ⟨i0, i1⟩
    rcases b2 i i0 i1 with ⟨k1, k2⟩ | ⟨k, k0, k1, k2, k3, k4⟩
    · have fre : zFree cN mG fx (mG i.toNatClampNeg) := fun o o0 o1 o2 => by rw [(hn o o0 o1).2.2.1]; exact k1 o o0 o1 o2
      rw [if_pos ((zFxS_f F).mpr fre), k2]
      exact ⟨rfl, by decide, cF0⟩
    · have kx := (hn k k0 k1).2.2.1
      obtain ⟨q1, q2, q3, q4, q5, q6, q7, q8, q9, q10, q11⟩ := hn k k0 k1
      rw [← kx] at k3 k4
      rw [k4]
      rcases F with ⟨_, w2⟩ | ⟨_, o, p, b1, b2, b3, b4, b5, b6, b7, b8, b9⟩ | ⟨w1, _, w3⟩
      · exact absurd (w2 k k0 k1 k2) k3
      · rcases ncf o p b1 b2 b3 b4 (b6.trans b5.symm) b7 with z | z
        · exact absurd z b8
        · exact absurd z.symm b9
      · have := (w3 k k0 k1 k2).resolve_left k3
        rw [if_neg (fun q => by rw [q] at w1; exact absurd w1 (by decide)), ← this]
        exact ⟨rfl, by (first | ((try clear T); (try clear G); (try clear h1); (try clear h2); (try clear hC); (try clear hI); (try clear hn); (try clear hg); (try clear gl); grind) | grind), q10.2⟩
  · obtain ⟨a1, a2⟩ := gl i i0 i1
    rw [fr _ a1.1 a2, if_neg i2]
/-! all CHOICES: the c-th one, of both -/
theorem zl_un {τ κ : Type} {D : τ → (τ → Option κ) → Option κ} {t : τ} {o : κ} (h : ∃ m, zl D m t = some o) : ∃ m, D t (zl D m) = some o := by
  obtain ⟨m, h⟩ := h
  cases m with
  | zero => exact (zl_0 h).elim
  | succ m => exact ⟨m, zl_s rfl h⟩
/-- two loops; the first may go on while the second waits -/
theorem zl_ip4 {σ τ ρ κ : Type} {B : σ → (σ → Option ρ) → Option ρ} {D : τ → (τ → Option κ) → Option κ} {P : ρ → κ → Prop} (R : σ → τ → Prop) (hB : ∀ (s : σ) (t : τ) (k1 : σ → Option ρ) (o1 : ρ) (o2 : κ), R s t → (∀ s t o1 o2, R s t → k1 s = some o1 → (∃ m, zl D m t = some o2) → P o1 o2) → B s k1 = some o1 → (∃ m, zl D m t = some o2) → P o1 o2) : ∀ (n : Nat) (s : σ) (t : τ) (o1 : ρ) (o2 : κ), R s t → zl B n s = some o1 → (∃ m, zl D m t = some o2) → P o1 o2 := by
  intro n
  induction n with
  | zero => intro s t o1 o2 _ h _; exact (zl_0 h).elim
  | succ n ih => intro s t o1 o2 hR h1 h2; exact hB s t (zl B n) o1 o2 hR (fun s t o1 o2 hR h1 h2 => ih s t o1 o2 hR h1 h2) (zl_s rfl h1) h2
theorem zct_sj {b : Nat → Bool} : ∀ n : Nat, n ≤ 1000 → ∀ v : Int32, 0 ≤ v → v < zct b n → ∃ k : Nat, k < n ∧ b k = true ∧ zct b k = v := by
  intro n
  induction n with
  | zero => intro _ v h0 h1; exact absurd h1 (by show ¬ v < 0; grind)
  | succ n ih =>
    intro hn v h0 h1
    have hb := zct_b b n (by omega)
    have e : zct b (n + 1) = zct b n + (if b n = true then 1 else 0) := rfl
    by_cases c : b n = true
    · rw [if_pos c] at e
      by_cases d : v = zct b n
      · exact ⟨n, by omega, c, d.symm⟩
      · have lt : v < zct b n := by
          have k1 := zo_add e rfl zi_1' (by omega)
          have k2 := Int32.lt_iff_toInt_lt.mp h1
          have k3 : ¬ v.toInt = (zct b n).toInt := fun q => d (Int32.toInt_inj.mp q)
          exact Int32.lt_iff_toInt_lt.mpr (by omega)
        obtain ⟨k, k1, k2, k3⟩ := ih (by omega) v h0 lt
        exact ⟨k, by omega, k2, k3⟩
    · rw [if_neg c] at e
      rw [e] at h1
      obtain ⟨k, k1, k2, k3⟩ := ih (by omega) v h0 (by rw [Int32.add_zero] at h1; exact h1)
      exact ⟨k, by omega, k2, k3⟩
/-- the least NUMBER of a GROUP, by its place -/
theorem zLead {cN gc gfr gcl : Int32} {fx gof gfx gld mG : Nat → Int32} {g : Int32} (hN : 0 ≤ cN ∧ cN ≤ 14) (G : zGp cN gc gfr gcl gof gfx gld fx mG) (h0 : 0 ≤ g) (h1 : g < gc) : ∃ j : Int32, 0 ≤ j ∧ j < cN ∧ mG j.toNatClampNeg = j ∧ zRk mG j.toNatClampNeg = g := by
  rw [G.1.1] at h1
  have l14 := z14' hN.1 hN.2
  obtain ⟨k, k1, k2, k3⟩ := zct_sj cN.toNatClampNeg (by omega) g h0 h1
  obtain ⟨a1, a2, a3⟩ := zof hN.1 k1
  refine ⟨Int32.ofNat k, a1, a2, ?_, ?_⟩
  · rw [a3]; exact of_decide_eq_true k2
  · rw [a3]; exact k3
noncomputable def zFg (gfx : Nat → Int32) : Nat → Int32 := zct (fun g => decide (gfx g = (-1)))
noncomputable def zUR (cN cF gc : Int32) (gof gfx mG : Nat → Int32) (s t : Int32 × Int32 × (Nat → Int32)) : Prop :=
  t.1 = s.1 ∧ (0 ≤ s.1 ∧ s.1 ≤ 1023) ∧ ((-1) ≤ s.2.1 ∧ s.2.1 < gc) ∧ t.2.1 = zFg gfx (s.2.1 + 1).toNatClampNeg - 1 ∧ (∀ i : Int32, 0 ≤ i → i < cN → (s.2.1 < gof i.toNatClampNeg → s.2.2 (gof i.toNatClampNeg).toNatClampNeg = t.2.2 i.toNatClampNeg ∧ 0 ≤ t.2.2 i.toNatClampNeg ∧ t.2.2 i.toNatClampNeg < cF) ∧ (¬ gfx (gof i.toNatClampNeg).toNatClampNeg = (-1) → t.2.2 i.toNatClampNeg = gfx (gof i.toNatClampNeg).toNatClampNeg ∧ 0 ≤ t.2.2 i.toNatClampNeg ∧ t.2.2 i.toNatClampNeg < cF))
set_option maxHeartbeats 4000000 in
theorem zUnf {cF cc cN inp gc gfr gcl mHh mFn : Int32} {nF nN stp mst prc al made amt op fx jn lets gof gfx gld hand mF mN mCst mNF mNN mS mM mC mW mO m1 m2 mX mG mH mTr mFr : Nat → Int32} {mA mB : Nat → Int64} {c : Int32} {into x y : Nat → Int32} (T : zTN cF cc cN inp nF nN stp mst prc al made amt op fx jn lets mF mN mNF mNN mS mM mC mW mCst mO m1 m2 mX mG mA mB) (G : zGp cN gc gfr gcl gof gfx gld fx mG) (H : zHN cN cF gcl mHh gof gfx hand mH) (cl : 0 < cN ∧ gcl = 0) (hc : 0 ≤ c ∧ c ≤ 1023) (hfn : mFn = zFk gfx mG cN.toNatClampNeg) (hfr : ∀ k : Int32, 0 ≤ k → k < cN → mG k.toNatClampNeg = k → gfx (zRk mG k.toNatClampNeg).toNatClampNeg = (-1) → mFr (zFk gfx mG k.toNatClampNeg).toNatClampNeg = k) (h1 : fn_X1_unfold c cF gc gfx into = some x) (h2 : fn_X12_triesChoice c mFn mN mH mTr mFr mF mG = some y) : zCh cN cF gof x y := by
  have T0 := T
  obtain ⟨⟨f1, f2, f3⟩, hN, hC, hz, hp, hI, hff, hn, hg⟩ := T
  have cF0 : 0 < cF := hp cl.1
  obtain ⟨C, Dx⟩ := H.2.2 cl.1 cl.2
  unfold fn_X1_unfold at h1
  unfold fn_X12_triesChoice at h2
  obtain ⟨th, hth, h2⟩ := zb_s h2
  have tr := zTrH hN hth
  rw [zn01.1, f1] at h2
  have gb := zRk_b (G := mG) (p := cN) hN.2.1 hN.2.2
  rw [← G.1.1] at gb
  have l14 := z14' hN.2.1 hN.2.2
  have ef : zFg gfx gc.toNatClampNeg = zFk gfx mG cN.toNatClampNeg := by rw [G.1.1]; exact zFreeC gfx mG cN.toNatClampNeg l14
  have gr : ∀ i : Int32, 0 ≤ i → i < cN → (0 ≤ gof i.toNatClampNeg ∧ gof i.toNatClampNeg < 14) ∧ gof i.toNatClampNeg < gc := by
    intro i i0 i1
    obtain ⟨l1, l2, l3⟩ := hg.1 i i0 i1
    have b1 := zRk_lt (G := mG) l1 (show mG i.toNatClampNeg < cN by (first | ((try clear T); (try clear G); (try clear H); (try clear hfr); (try clear h1); (try clear h2); (try clear hC); (try clear hI); (try clear hn); (try clear hg); (try clear hth); (try clear gr); grind) | grind)) hN.2.2 l3
    rw [← G.1.1, ← G.1.2.1 i i0 i1] at b1
    exact ⟨zGofR hN.2.2 hg G ⟨i0, i1⟩, b1⟩
  refine zl_ip4 (P := fun x y => zCh cN cF gof x y) (fun s t => zUR cN cF gc gof gfx mG s t) ?_ _ _ _ _ _ ?_ h1 ⟨_, h2⟩
  · intro s t k1 o1 o2 ⟨R1, R2, R3, R4, R5⟩ hb ho1 ho2
    obtain ⟨rest, g, row⟩ := s
    obtain ⟨left, k, tt⟩ := t
    dsimp only at R1 R2 R3 R4 R5
    subst R1
    by_cases c1 : g < 0
    · rw [if_pos c1] at ho1
      obtain ⟨m, ho2⟩ := zl_un ho2
      have k0 : k < 0 := by
        rw [R4, show g = (-1) by (first | ((try clear T); (try clear G); (try clear H); (try clear hfr); (try clear h1); (try clear h2); (try clear hC); (try clear hI); (try clear hn); (try clear hg); (try clear hth); (try clear gr); (try clear hb); (try clear ho1); (try clear ho2); grind) | grind), show ((-1) + 1 : Int32).toNatClampNeg = 0 by decide +kernel]
        show (0 : Int32) - 1 < 0
        decide
      rw [if_pos k0] at ho2
      rw [← Option.some.inj ho1, ← Option.some.inj ho2]
      intro i i0 i1
      obtain ⟨a1, a2⟩ := gr i i0 i1
      exact ⟨a1, (R5 i i0 i1).1 (by (first | ((try clear T); (try clear G); (try clear H); (try clear hfr); (try clear h1); (try clear h2); (try clear hC); (try clear hI); (try clear hn); (try clear hg); (try clear hth); (try clear gr); (try clear hb); (try clear ho1); (try clear ho2); grind) | grind))⟩
    · rw [if_neg c1] at ho1
      obtain ⟨-, ho1⟩ := zg_s ho1
      simp only [zn] at ho1
      have g0 : 0 ≤ g := by (first | ((try clear T); (try clear G); (try clear H); (try clear hfr); (try clear h1); (try clear h2); (try clear hC); (try clear hI); (try clear hn); (try clear hg); (try clear hth); (try clear gr); (try clear hb); (try clear ho1); (try clear ho2); grind) | grind)
      have g14 : g < 14 := by (first | ((try clear T); (try clear G); (try clear H); (try clear hfr); (try clear h1); (try clear h2); (try clear hC); (try clear hI); (try clear hn); (try clear hg); (try clear hth); (try clear gr); (try clear hb); (try clear ho1); (try clear ho2); grind) | grind)
      by_cases d : gfx g.toNatClampNeg = (-1)
      · rw [if_pos d, if_neg (show ¬ cF ≤ 0 by (first | ((try clear T); (try clear G); (try clear H); (try clear hfr); (try clear h1); (try clear h2); (try clear hC); (try clear hI); (try clear hn); (try clear hg); (try clear hth); (try clear gr); (try clear hb); (try clear ho1); (try clear ho2); grind) | grind))] at ho1
        obtain ⟨-, ho1⟩ := zd_s ho1
        obtain ⟨-, ho1⟩ := zd_s ho1
        have e1 : zFg gfx (g + 1).toNatClampNeg = zFg gfx g.toNatClampNeg + 1 := zct_t g0 (by (first | ((try clear T); (try clear G); (try clear H); (try clear hfr); (try clear h1); (try clear h2); (try clear hC); (try clear hI); (try clear hn); (try clear hg); (try clear hth); (try clear gr); (try clear hb); (try clear ho1); (try clear ho2); grind) | grind)) (decide_eq_true d)
        have b1 : 0 ≤ zFg gfx g.toNatClampNeg ∧ zFg gfx g.toNatClampNeg ≤ g := zct_b32 g0 (by (first | ((try clear T); (try clear G); (try clear H); (try clear hfr); (try clear h1); (try clear h2); (try clear hC); (try clear hI); (try clear hn); (try clear hg); (try clear hth); (try clear gr); (try clear hb); (try clear ho1); (try clear ho2); grind) | grind))
        rw [e1] at R4
        have ek : k = zFg gfx g.toNatClampNeg := by rw [R4]; generalize zFg gfx g.toNatClampNeg = q at b1; (first | ((try clear T); (try clear G); (try clear H); (try clear hfr); (try clear h1); (try clear h2); (try clear hC); (try clear hI); (try clear hn); (try clear hg); (try clear hth); (try clear gr); (try clear hb); (try clear ho1); (try clear ho2); grind) | grind)
        obtain ⟨m, ho2⟩ := zl_un ho2
        rw [if_neg (show ¬ k < 0 by rw [ek]; (first | ((try clear T); (try clear G); (try clear H); (try clear hfr); (try clear h1); (try clear h2); (try clear hC); (try clear hI); (try clear hn); (try clear hg); (try clear hth); (try clear gr); (try clear hb); (try clear ho1); (try clear ho2); grind) | grind))] at ho2
        obtain ⟨-, ho2⟩ := zg_s ho2
        obtain ⟨-, ho2⟩ := zd_s ho2
        simp only [zn] at ho2
        obtain ⟨tg, htg, ho2⟩ := zb_s ho2
        obtain ⟨-, ho2⟩ := zd_s ho2
        obtain ⟨j, j0, j1, j2, j3⟩ := zLead hN.2 G g0 R3.2
        have ej : mFr k.toNatClampNeg = j := by
          have := hfr j j0 j1 j2 (by rw [j3]; exact d)
          have e9 : zFg gfx (zRk mG j.toNatClampNeg).toNatClampNeg = zFk gfx mG j.toNatClampNeg := zFreeC gfx mG j.toNatClampNeg (z14' j0 (by (first | ((try clear T); (try clear G); (try clear H); (try clear hfr); (try clear h1); (try clear h2); (try clear hC); (try clear hI); (try clear hn); (try clear hg); (try clear hth); (try clear gr); (try clear hb); (try clear ho1); (try clear ho2); (try clear htg); grind) | grind)))
          rw [← e9, j3] at this
          rw [ek]; exact this
        rw [ej] at htg
        have tgs := zTrG hN htg
        obtain ⟨d1, d2, d3, d4⟩ := zdivm left cF R2.1 R2.2 (by (first | ((try clear T); (try clear G); (try clear H); (try clear hfr); (try clear h1); (try clear h2); (try clear hC); (try clear hI); (try clear hn); (try clear hg); (try clear hth); (try clear gr); (try clear hb); (try clear ho1); (try clear ho2); (try clear htg); grind) | grind)) f3
        refine hb _ _ _ _ ?_ ho1 ⟨m, ho2⟩
        refine ⟨rfl, ⟨d1, (show left / cF ≤ 1023 by (first | ((try clear T); (try clear G); (try clear H); (try clear hfr); (try clear h1); (try clear h2); (try clear hC); (try clear hI); (try clear hn); (try clear hg); (try clear hth); (try clear gr); (try clear hb); (try clear ho1); (try clear ho2); (try clear htg); grind) | grind))⟩, ⟨(show (-1) ≤ g + (-1) by (first | ((try clear T); (try clear G); (try clear H); (try clear hfr); (try clear h1); (try clear h2); (try clear hC); (try clear hI); (try clear hn); (try clear hg); (try clear hth); (try clear gr); (try clear hb); (try clear ho1); (try clear ho2); (try clear htg); grind) | grind)), (show g + (-1) < gc by (first | ((try clear T); (try clear G); (try clear H); (try clear hfr); (try clear h1); (try clear h2); (try clear hC); (try clear hI); (try clear hn); (try clear hg); (try clear hth); (try clear gr); (try clear hb); (try clear ho1); (try clear ho2); (try clear htg); grind) | grind))⟩, ?_, fun i i0 i1 => ?_⟩
        · show k + (-1) = zFg gfx (g + (-1) + 1).toNatClampNeg - 1
          rw [show g + (-1) + 1 = g by (first | ((try clear T); (try clear G); (try clear H); (try clear hfr); (try clear h1); (try clear h2); (try clear hC); (try clear hI); (try clear hn); (try clear hg); (try clear hth); (try clear gr); (try clear hb); (try clear ho1); (try clear ho2); (try clear htg); grind) | grind), ek]
          generalize zFg gfx g.toNatClampNeg = q
          (first | ((try clear T); (try clear G); (try clear H); (try clear hfr); (try clear h1); (try clear h2); (try clear hC); (try clear hI); (try clear hn); (try clear hg); (try clear hth); (try clear gr); (try clear hb); (try clear ho1); (try clear ho2); (try clear htg); grind) | grind)
        · obtain ⟨a1, a2⟩ := gr i i0 i1
          have same : mG i.toNatClampNeg = j ↔ gof i.toNatClampNeg = g := by
            have ej2 : gof j.toNatClampNeg = g := by rw [G.1.2.1 j j0 j1, j2, j3]
            have := zGp_eq hN.2.2 hg G ⟨i0, i1⟩ ⟨j0, j1⟩
            rw [ej2, j2] at this
            exact this.symm
          show (g + (-1) < gof i.toNatClampNeg → upd (upd row g.toNatClampNeg (gfx g.toNatClampNeg)) g.toNatClampNeg (left - left / cF * cF) (gof i.toNatClampNeg).toNatClampNeg = tg i.toNatClampNeg ∧ 0 ≤ tg i.toNatClampNeg ∧ tg i.toNatClampNeg < cF) ∧ (¬ gfx (gof i.toNatClampNeg).toNatClampNeg = (-1) → tg i.toNatClampNeg = gfx (gof i.toNatClampNeg).toNatClampNeg ∧ 0 ≤ tg i.toNatClampNeg ∧ tg i.toNatClampNeg < cF)
          rw [tgs i i0 i1, zup g0 a1.1, zup g0 a1.1]
          by_cases w : gof i.toNatClampNeg = g
          · rw [if_pos w, if_pos (same.mpr w)]
            exact ⟨fun _ => ⟨rfl, d3, d4⟩, fun q => absurd (by rw [w]; exact d) q⟩
          · rw [if_neg w, if_neg w, if_neg (fun q => w (same.mp q))]
            exact ⟨fun q => (R5 i i0 i1).1 (by (first | ((try clear T); (try clear G); (try clear H); (try clear hfr); (try clear h1); (try clear h2); (try clear hC); (try clear hI); (try clear hn); (try clear hg); (try clear hth); (try clear gr); (try clear hb); (try clear ho1); (try clear ho2); (try clear htg); grind) | grind)), (R5 i i0 i1).2⟩
      · rw [if_neg d] at ho1
        have e1 : zFg gfx (g + 1).toNatClampNeg = zFg gfx g.toNatClampNeg := zct_f g0 (by (first | ((try clear T); (try clear G); (try clear H); (try clear hfr); (try clear h1); (try clear h2); (try clear hC); (try clear hI); (try clear hn); (try clear hg); (try clear hth); (try clear gr); (try clear hb); (try clear ho1); (try clear ho2); (try clear htg); grind) | grind)) (fun q => d (of_decide_eq_true q))
        refine hb _ _ _ _ ?_ ho1 ho2
        refine ⟨rfl, R2, ⟨(show (-1) ≤ g + (-1) by (first | ((try clear T); (try clear G); (try clear H); (try clear hfr); (try clear h1); (try clear h2); (try clear hC); (try clear hI); (try clear hn); (try clear hg); (try clear hth); (try clear gr); (try clear hb); (try clear ho1); (try clear ho2); (try clear htg); grind) | grind)), (show g + (-1) < gc by (first | ((try clear T); (try clear G); (try clear H); (try clear hfr); (try clear h1); (try clear h2); (try clear hC); (try clear hI); (try clear hn); (try clear hg); (try clear hth); (try clear gr); (try clear hb); (try clear ho1); (try clear ho2); (try clear htg); grind) | grind))⟩, ?_, fun i i0 i1 => ?_⟩
        · show k = zFg gfx (g + (-1) + 1).toNatClampNeg - 1
          rw [show g + (-1) + 1 = g by (first | ((try clear T); (try clear G); (try clear H); (try clear hfr); (try clear h1); (try clear h2); (try clear hC); (try clear hI); (try clear hn); (try clear hg); (try clear hth); (try clear gr); (try clear hb); (try clear ho1); (try clear ho2); (try clear htg); grind) | grind), R4, e1]
        · obtain ⟨a1, a2⟩ := gr i i0 i1
          show (g + (-1) < gof i.toNatClampNeg → upd row g.toNatClampNeg (gfx g.toNatClampNeg) (gof i.toNatClampNeg).toNatClampNeg = tt i.toNatClampNeg ∧ 0 ≤ tt i.toNatClampNeg ∧ tt i.toNatClampNeg < cF) ∧ (¬ gfx (gof i.toNatClampNeg).toNatClampNeg = (-1) → tt i.toNatClampNeg = gfx (gof i.toNatClampNeg).toNatClampNeg ∧ 0 ≤ tt i.toNatClampNeg ∧ tt i.toNatClampNeg < cF)
          rw [zup g0 a1.1]
          refine ⟨fun q => ?_, (R5 i i0 i1).2⟩
          by_cases w : gof i.toNatClampNeg = g
          · rw [if_pos w]
            have := (R5 i i0 i1).2 (by rw [w]; exact d)
            rw [w] at this
            exact ⟨this.1.symm, this.2⟩
          · rw [if_neg w]; exact (R5 i i0 i1).1 (by (first | ((try clear T); (try clear G); (try clear H); (try clear hfr); (try clear h1); (try clear h2); (try clear hC); (try clear hI); (try clear hn); (try clear hg); (try clear hth); (try clear gr); (try clear hb); (try clear ho1); (try clear ho2); (try clear htg); grind) | grind))
  · refine ⟨rfl, hc, ⟨(show (-1) ≤ gc - 1 by (first | ((try clear T); (try clear G); (try clear H); (try clear hfr); (try clear h1); (try clear h2); (try clear hC); (try clear hI); (try clear hn); (try clear hg); (try clear hth); (try clear gr); (try clear hb); (try clear ho1); (try clear ho2); (try clear htg); grind) | grind)), (show gc - 1 < gc by (first | ((try clear T); (try clear G); (try clear H); (try clear hfr); (try clear h1); (try clear h2); (try clear hC); (try clear hI); (try clear hn); (try clear hg); (try clear hth); (try clear gr); (try clear hb); (try clear ho1); (try clear ho2); (try clear htg); grind) | grind))⟩, ?_, fun i i0 i1 => ⟨fun q => ?_, fun q => ?_⟩⟩
    · show mFn - 1 = zFg gfx (gc - 1 + 1).toNatClampNeg - 1
      rw [show gc - 1 + 1 = gc by (first | ((try clear T); (try clear G); (try clear H); (try clear hfr); (try clear h1); (try clear h2); (try clear hC); (try clear hI); (try clear hn); (try clear hg); (try clear hth); (try clear gr); (try clear hb); (try clear ho1); (try clear ho2); (try clear htg); grind) | grind), ef, hfn]
    · exact absurd (gr i i0 i1).2 (by have q : gc - 1 < gof i.toNatClampNeg := q; (first | ((try clear T); (try clear G); (try clear H); (try clear hfr); (try clear h1); (try clear h2); (try clear hC); (try clear hI); (try clear hn); (try clear hg); (try clear hth); (try clear gr); (try clear hb); (try clear ho1); (try clear ho2); (try clear htg); grind) | grind))
    · obtain ⟨c1, c2, c3, c4⟩ := C i i0 i1
      show th i.toNatClampNeg = gfx (gof i.toNatClampNeg).toNatClampNeg ∧ 0 ≤ th i.toNatClampNeg ∧ th i.toNatClampNeg < cF
      rw [tr i i0 i1, ← Dx i i0 i1 q, c2]
      exact ⟨rfl, c3, c4⟩
/-! all CHOICES, one after the other: what the class finds of the c-th, what the reference does -/
theorem zlt1 {k c : Int32} (hk : 0 ≤ k ∧ k < 100000) (h : c < k + 1) : c = k ∨ c < k := by grind
theorem zlt2 {k c : Int32} (hk : 0 ≤ k ∧ k < 100000) (h : c < k) : c < k + 1 := by grind
theorem zlt3 {k : Int32} (hk : 0 ≤ k ∧ k < 100000) : k < k + 1 ∧ 0 ≤ k + 1 := by grind
theorem zltt {a b c : Int32} (h1 : a < b) (h2 : b < c) : a < c := by grind
theorem zor1 {a b x y : Int32} (h : a ≤ b) (h2 : x < y) : a < b ∨ a = b ∧ x ≤ y := by grind
theorem zbb {p q b c : Int32} (h1 : p < q ∨ p = q ∧ b ≤ c) (h2 : q < p ∨ q = p ∧ c ≤ b) : b = c := by grind
theorem zN14 {k c : Int32} (h0 : 0 ≤ k) (h1 : k < c) (h2 : c ≤ 14) : (0 ≤ k ∧ k < 100000) ∧ k < 14 ∧ k ≤ 14 ∧ k ≤ 1200 ∧ 0 ≤ k + 1 ∧ k + 1 ≤ c := by grind
theorem zN1k {k c : Int32} (h0 : 0 ≤ k) (h1 : k < c) (h2 : c ≤ 1024) : (0 ≤ k ∧ k ≤ 1023) ∧ k ≤ 1200 ∧ (0 ≤ k + 1 ∧ k + 1 ≤ c) ∧ k ≤ 1024 := by grind
theorem zNab {a k b : Int32} (h0 : 0 ≤ k) (ha : a ≤ k) (h1 : k < b) (h2 : b ≤ 14) : (0 ≤ k ∧ k < 100000) ∧ a ≤ k + 1 ∧ k + 1 ≤ b := by grind
theorem zNe {i j : Int32} (h : ¬ i = j) : i < j ∨ j < i := by grind
theorem zIs3 {p : Int32} (d : 0 ≤ p ∧ p ≤ 3) (e0 : ¬ p = 0) (e1 : ¬ p = 1) (e2 : ¬ p = 2) : p = 3 := by grind
theorem zLe1 {a j : Int32} (ha : 0 ≤ a ∧ a < 100) (q : a + 1 ≤ j) : a ≤ j := by grind
theorem zBx1 {a b : Int32} (hb : 0 ≤ b ∧ b ≤ 25) (ha : 0 ≤ a) (hab : a < b) : 0 ≤ b + 1 ∧ ¬ b + 1 = b ∧ 0 ≤ a + 1 := by grind
theorem zSp1 {a b j : Int32} (hb : 0 ≤ b ∧ b ≤ 25) (ha : 0 ≤ a) (hab : a < b) (q1 : a + 1 ≤ j) (q2 : j < b + 2) : 0 ≤ j ∧ (j = b ∨ j = b + 1 ∨ (a ≤ j ∧ j < b ∧ ¬ j = a ∧ ¬ j = b ∧ ¬ j = b + 1)) := by
  have k1 := Int32.le_iff_toInt_le.mp hb.1
  have k2 := Int32.le_iff_toInt_le.mp hb.2
  have k3 := Int32.le_iff_toInt_le.mp ha
  have k4 := Int32.lt_iff_toInt_lt.mp hab
  have k5 := Int32.le_iff_toInt_le.mp q1
  have k6 := Int32.lt_iff_toInt_lt.mp q2
  rw [zi_0] at k1 k3
  rw [show (25 : Int32).toInt = 25 by decide +kernel] at k2
  have e1 := zo_add (x := a) (y := 1) (z := a + 1) rfl rfl zi_1' (by omega)
  have e2 := zo_add (x := b) (y := 2) (z := b + 2) rfl rfl (show (2 : Int32).toInt = 2 by decide +kernel) (by omega)
  have e3 := zo_add (x := b) (y := 1) (z := b + 1) rfl rfl zi_1' (by omega)
  refine ⟨Int32.le_iff_toInt_le.mpr (by rw [zi_0]; omega), ?_⟩
  by_cases p : j = b
  · exact Or.inl p
  · by_cases q : j = b + 1
    · exact Or.inr (Or.inl q)
    · have p' : ¬ j.toInt = b.toInt := fun z => p (Int32.toInt_inj.mp z)
      have q' : ¬ j.toInt = b.toInt + 1 := fun z => q (Int32.toInt_inj.mp (by rw [e3]; exact z))
      refine Or.inr (Or.inr ⟨Int32.le_iff_toInt_le.mpr (by omega), Int32.lt_iff_toInt_lt.mpr (by omega), fun z => ?_, p, q⟩)
      rw [z] at k5
      omega
theorem zP28 {p : Int32} (h : p ≤ 26) : ¬ 28 ≤ p ∧ p < 100 := by grind
theorem zPj1 {p j : Int32} (h0 : 0 ≤ p ∧ p < 100) (q : p + 1 ≤ j) : p ≤ j ∧ ¬ p = j := by grind
theorem zPs2 {p : Int32} (h0 : 0 ≤ p) (h : p ≤ 25) : p < 28 ∧ p + 1 < 28 ∧ p + 1 + 1 = p + 2 := by grind
theorem zOne {x : Int32} (h : ¬ x ≤ 0) : 1 ≤ x := by grind
theorem zNul {j : Int32} (h0 : 0 ≤ j) (h1 : j < 1) : j = 0 := by grind
theorem zDn1 {k c : Int32} (k0 : 0 ≤ k) (h : k < c) (hc : c ≤ 14) : (-1) ≤ k + (-1) ∧ k + (-1) < c := by grind
theorem zDn2 {k g : Int32} (k0 : 0 ≤ k) (h : k ≤ 100) (q : k + (-1) < g) : g = k ∨ k < g := by grind
theorem zK23 {b q : Int32} (h : b < q) (h2 : q ≤ 1024) : b ≤ 1023 := by grind
theorem zAp20 {v : Int32} (hv : 0 ≤ v ∧ v ≤ 1200) : v ≤ 1180 ↔ v + 20 ≤ 1200 := by grind
theorem zW1 {x : Int32} (h : (-1) ≤ x) (c : ¬ x = (-1)) : 0 ≤ x ∧ ¬ x < 0 := by grind
theorem zW2 {x c : Int32} (h : x < c) (h2 : c ≤ 14) : x < 14 := by grind
theorem zOp15 {x : Int32} (h : 0 ≤ x ∧ x ≤ 5) (c : ¬ x = 0) : 1 ≤ x ∧ x ≤ 5 := by grind
theorem zNz1 {v w : Int32} (h : 0 ≤ v) (l : v < w) : ¬ w = 0 := by grind
theorem zNm1 {v w : Int32} (l : v < w) (h : w ≤ 10000000) : ¬ v = 10000000 := by grind
theorem zVx1 {v w : Int32} (h : 0 ≤ v) (l : v < w) (hw : w ≤ 10000000) : 0 ≤ v + 1 ∧ ¬ w < v + 1 := by grind
theorem zBg1 {a b : Int32} (h0 : 0 ≤ a) (h : a < b) (h2 : b ≤ 10000000) (l : b - a ≤ 1) : b = a + 1 := by grind
theorem zN32 {n : Int32} (h : 0 ≤ n) (k : ¬ 32 ≤ n) : 0 ≤ n + 1 ∧ n + 1 ≤ 32 := by grind
theorem zMm1 {a m : Int32} (h0 : 0 ≤ a) (h : a < m) (h2 : m ≤ 10000000) : a ≤ m - 1 ∧ m - 1 ≤ 10000000 ∧ m - 1 + 1 = m ∧ 0 ≤ m := by grind
theorem zct_bB (b : Nat → Bool) : ∀ k : Nat, k ≤ 2000 → 0 ≤ (zct b k).toInt ∧ (zct b k).toInt ≤ (k : Int) := by
  intro k
  induction k with
  | zero => intro _; show 0 ≤ (0 : Int32).toInt ∧ (0 : Int32).toInt ≤ 0; rw [zi_0]; omega
  | succ k ih =>
    intro hk
    have h := ih (by omega)
    show 0 ≤ (zct b k + (if b k = true then 1 else 0)).toInt ∧ (zct b k + (if b k = true then 1 else 0)).toInt ≤ ((k + 1 : Nat) : Int)
    by_cases c : b k = true
    · rw [if_pos c]
      have := zo_add (x := zct b k) (y := 1) (z := zct b k + 1) rfl rfl zi_1' (by omega)
      omega
    · rw [if_neg c]
      have := zo_add (x := zct b k) (y := 0) (z := zct b k + 0) rfl rfl zi_0 (by omega)
      omega
theorem zct_mB (b : Nat → Bool) (k : Nat) : ∀ j : Nat, k + j ≤ 2000 → (zct b k).toInt ≤ (zct b (k + j)).toInt := by
  intro j
  induction j with
  | zero => intro _; exact Int.le_refl _
  | succ j ih =>
    intro hk
    have h := ih (by omega)
    have hb := zct_bB b (k + j) (by omega)
    have e : zct b (k + (j + 1)) = zct b (k + j) + (if b (k + j) = true then 1 else 0) := rfl
    by_cases c : b (k + j) = true
    · rw [if_pos c] at e
      have := zo_add (x := zct b (k + j)) (y := 1) e rfl zi_1' (by omega)
      omega
    · rw [if_neg c] at e
      have := zo_add (x := zct b (k + j)) (y := 0) e rfl zi_0 (by omega)
      omega
theorem zct_bI {b : Nat → Bool} {k : Int32} (h0 : 0 ≤ k) (h1 : k ≤ 1024) : 0 ≤ zct b k.toNatClampNeg ∧ zct b k.toNatClampNeg ≤ k := by
  have hp := (zofn k h0).2
  have h2 := Int32.le_iff_toInt_le.mp h1
  rw [show (1024 : Int32).toInt = 1024 by decide +kernel] at h2
  have h := zct_bB b k.toNatClampNeg (by omega)
  exact ⟨Int32.le_iff_toInt_le.mpr (by rw [zi_0]; exact h.1), Int32.le_iff_toInt_le.mpr (by omega)⟩
theorem zct_lI {b : Nat → Bool} {j k : Int32} (h0 : 0 ≤ j) (h1 : j < k) (h2 : k ≤ 1024) (hb : b j.toNatClampNeg = true) : zct b j.toNatClampNeg < zct b k.toNatClampNeg := by
  have hj := (zofn j h0).2
  have hk := (zofn k (by (first | ((try clear hj); grind) | grind))).2
  have k1 := Int32.lt_iff_toInt_lt.mp h1
  have k2 := Int32.le_iff_toInt_le.mp h2
  rw [show (1024 : Int32).toInt = 1024 by decide +kernel] at k2
  have m := zct_mB b (j.toNatClampNeg + 1) (k.toNatClampNeg - (j.toNatClampNeg + 1)) (by omega)
  rw [show j.toNatClampNeg + 1 + (k.toNatClampNeg - (j.toNatClampNeg + 1)) = k.toNatClampNeg by omega] at m
  have e : zct b (j.toNatClampNeg + 1) = zct b j.toNatClampNeg + (if b j.toNatClampNeg = true then 1 else 0) := rfl
  rw [if_pos hb] at e
  have hbj := zct_bB b j.toNatClampNeg (by omega)
  have := zo_add (x := zct b j.toNatClampNeg) (y := 1) e rfl zi_1' (by omega)
  exact Int32.lt_iff_toInt_lt.mpr (by omega)
/-! a row of anything, with one place anew -/
noncomputable def zUp {α : Type} (f : Nat → α) (k : Nat) (v : α) : Nat → α := fun n => if n = k then v else f n
theorem zUp_s {α : Type} {f : Nat → α} {k : Nat} {v : α} : zUp f k v k = v := if_pos rfl
theorem zUp_o {α : Type} {f : Nat → α} {k n : Nat} {v : α} (h : n < k) : zUp f k v n = f n := if_neg (Nat.ne_of_lt h)
/-- the cheapest of those that PASS, of like ones the first -/
noncomputable def zBs (k : Int32) (ok pr : Nat → Int32) (b bp : Int32) : Prop := (b = (-1) ∧ ∀ c : Int32, 0 ≤ c → c < k → ok c.toNatClampNeg = 0) ∨ ((0 ≤ b ∧ b < k) ∧ ¬ ok b.toNatClampNeg = 0 ∧ bp = pr b.toNatClampNeg ∧ ∀ c : Int32, 0 ≤ c → c < k → ¬ ok c.toNatClampNeg = 0 → pr b.toNatClampNeg < pr c.toNatClampNeg ∨ pr b.toNatClampNeg = pr c.toNatClampNeg ∧ b ≤ c)
theorem zBs_0 {ok pr : Nat → Int32} {bp : Int32} : zBs 0 ok pr (-1) bp := Or.inl ⟨rfl, fun c c0 c1 => absurd c1 (by show ¬ c < 0; grind)⟩
theorem zBs_no {k b bp : Int32} {ok pr : Nat → Int32} (hk : 0 ≤ k ∧ k < 100000) (h : zBs k ok pr b bp) (ho : ok k.toNatClampNeg = 0) : zBs (k + 1) ok pr b bp := by
  rcases h with ⟨a1, a2⟩ | ⟨a1, a2, a3, a4⟩
  · refine Or.inl ⟨a1, fun c c0 c1 => ?_⟩
    rcases zlt1 hk c1 with w | w
    · rw [w]; exact ho
    · exact a2 c c0 w
  · refine Or.inr ⟨⟨a1.1, zlt2 hk a1.2⟩, a2, a3, fun c c0 c1 c2 => ?_⟩
    rcases zlt1 hk c1 with w | w
    · rw [w] at c2; exact absurd ho c2
    · exact a4 c c0 w c2
theorem zBs_up {k b bp : Int32} {ok pr : Nat → Int32} (hk : 0 ≤ k ∧ k < 100000) (h : zBs k ok pr b bp) (ho : ¬ ok k.toNatClampNeg = 0) (hb : b = (-1) ∨ pr k.toNatClampNeg < bp) : zBs (k + 1) ok pr k (pr k.toNatClampNeg) := by
  refine Or.inr ⟨⟨hk.1, (zlt3 hk).1⟩, ho, rfl, fun c c0 c1 c2 => ?_⟩
  rcases zlt1 hk c1 with w | w
  · rw [w]; exact Or.inr ⟨rfl, Int32.le_refl _⟩
  · left
    rcases h with ⟨a1, a2⟩ | ⟨a1, a2, a3, a4⟩
    · exact absurd (a2 c c0 w) c2
    · have lt : pr k.toNatClampNeg < pr b.toNatClampNeg := by
        rcases hb with q | q
        · rw [q] at a1; exact absurd a1.1 (by decide)
        · rw [a3] at q; exact q
      rcases a4 c c0 w c2 with z | z
      · exact zltt lt z
      · rw [← z.1]; exact lt
theorem zBs_st {k b bp : Int32} {ok pr : Nat → Int32} (hk : 0 ≤ k ∧ k < 100000) (h : zBs k ok pr b bp) (hb : ¬ b = (-1)) (hl : bp ≤ pr k.toNatClampNeg) : zBs (k + 1) ok pr b bp := by
  rcases h with ⟨a1, _⟩ | ⟨a1, a2, a3, a4⟩
  · exact absurd a1 hb
  · refine Or.inr ⟨⟨a1.1, zlt2 hk a1.2⟩, a2, a3, fun c c0 c1 c2 => ?_⟩
    rcases zlt1 hk c1 with w | w
    · rw [w]; rw [a3] at hl; exact zor1 hl a1.2
    · exact a4 c c0 w c2
theorem zBs_eq {k b bp b' bp' : Int32} {ok pr : Nat → Int32} (h : zBs k ok pr b bp) (h' : zBs k ok pr b' bp') : b = b' ∧ (¬ b = (-1) → bp = bp') := by
  rcases h with ⟨a1, a2⟩ | ⟨a1, a2, a3, a4⟩
  · rcases h' with ⟨b1, b2⟩ | ⟨b1, b2, b3, b4⟩
    · exact ⟨a1.trans b1.symm, fun q => absurd a1 q⟩
    · exact absurd (a2 b' b1.1 b1.2) b2
  · rcases h' with ⟨b1, b2⟩ | ⟨b1, b2, b3, b4⟩
    · exact absurd (b2 b a1.1 a1.2) a2
    · have e := zbb (a4 b' b1.1 b1.2 b2) (b4 b a1.1 a1.2 a2)
      refine ⟨e, fun _ => ?_⟩
      rw [a3, b3, e]
theorem zBs_c {k b bp : Int32} {ok pr ok' pr' : Nat → Int32} (h : zBs k ok pr b bp) (hc : ∀ n : Nat, n < k.toNatClampNeg → ok' n = ok n ∧ pr' n = pr n) : zBs k ok' pr' b bp := by
  rcases h with ⟨a1, a2⟩ | ⟨a1, a2, a3, a4⟩
  · refine Or.inl ⟨a1, fun c c0 c1 => ?_⟩
    rw [(hc _ (zcl' c0 c1)).1]; exact a2 c c0 c1
  · have e := hc _ (zcl' a1.1 a1.2)
    refine Or.inr ⟨a1, by rw [e.1]; exact a2, by rw [e.2]; exact a3, fun c c0 c1 c2 => ?_⟩
    have f := hc _ (zcl' c0 c1)
    rw [f.1] at c2
    rw [e.2, f.2]
    exact a4 c c0 c1 c2
noncomputable def zTry (cF cc cN gc : Int32) (gof gfx stp mst prc al made amt op : Nat → Int32) (rlo rhi : Nat → Int64) (c ok pr : Int32) (er : Nat → Int64) : Prop := ∃ (into row : Nat → Int32) (er0 : Nat → Int64) (fa rs : Int32), fn_X1_unfold c cF gc gfx into = some row ∧ fn_X7_reckon cF cN gof row stp op made er0 amt rlo rhi mst al = some (ok, fa, rs, er) ∧ (¬ ok = 0 → fn_X9_priceOf cF cc cN made gof row prc = some pr)
noncomputable def zFL (cN mFn : Int32) (gfx mG mFr : Nat → Int32) : Prop := mFn = zFk gfx mG cN.toNatClampNeg ∧ ∀ k : Int32, 0 ≤ k → k < cN → mG k.toNatClampNeg = k → gfx (zRk mG k.toNatClampNeg).toNatClampNeg = (-1) → mFr (zFk gfx mG k.toNatClampNeg).toNatClampNeg = k
theorem zTryPass {cF cc cN inp gc gfr gcl mHh mFn : Int32} {nF nN stp mst prc al made amt op fx jn lets gof gfx gld rwd hand mF mN mCst mNF mNN mS mM mC mW mO m1 m2 mX mG mH mTr mFr : Nat → Int32} {rlo rhi mA mB mLe mGe mEr : Nat → Int64} {mWb : Int64} {c ok pr : Int32} {er : Nat → Int64} {t : Nat → Int32} {y : Int32 × Int32 × Int32 × (Nat → Int64) × (Nat → Int64) × (Nat → Int64)} (T : zTN cF cc cN inp nF nN stp mst prc al made amt op fx jn lets mF mN mNF mNN mS mM mC mW mCst mO m1 m2 mX mG mA mB) (G : zGp cN gc gfr gcl gof gfx gld fx mG) (R : zRN cN (-1) 0 op made amt rwd rlo rhi) (H : zHN cN cF gcl mHh gof gfx hand mH) (cl : 0 < cN ∧ gcl = 0) (hc : 0 ≤ c ∧ c ≤ 1023) (L : zFL cN mFn gfx mG mFr) (h : zTry cF cc cN gc gof gfx stp mst prc al made amt op rlo rhi c ok pr er) (ht : fn_X12_triesChoice c mFn mN mH mTr mFr mF mG = some t) (hp : fn_X12_passes (-1) mWb mN mO m1 m2 mLe mA mB mGe t mS mEr mM mW = some y) : y.1 = ok ∧ (ok = 0 ∨ ok = 1) ∧ (ok = 1 → ∀ j : Int32, 0 ≤ j → j < cN → y.2.2.2.2.2 j.toNatClampNeg = er j.toNatClampNeg ∧ 0 ≤ (er j.toNatClampNeg).toInt ∧ (er j.toNatClampNeg).toInt ≤ 1000000000) := by
  obtain ⟨into, row, er0, fa, rs, e1, e2, e3⟩ := h
  have C := zUnf T G H cl hc L.1 L.2 e1 ht
  obtain ⟨p1, -, -, p4⟩ := zPassEq (wd := rwd) T (zRN_1 R) (Or.inl rfl) C e2 hp
  dsimp only at p1 p4
  refine ⟨p1.symm, ?_, fun w j j0 j1 => ?_⟩
  · rcases p4 with ⟨w, _⟩ | ⟨w, _⟩
    · exact Or.inr w
    · exact Or.inl w
  · rcases p4 with ⟨_, _, _, q⟩ | ⟨w2, _⟩
    · obtain ⟨a1, -, -, a4, -⟩ := q j j0 j1
      exact ⟨a1.symm, a4⟩
    · rw [w] at w2; exact absurd w2 (by decide)
theorem zTryCost {cF cc cN inp gc gfr gcl mHh mFn : Int32} {nF nN stp mst prc al made amt op fx jn lets gof gfx gld hand mF mN mCst mNF mNN mS mM mC mW mO m1 m2 mX mG mH mTr mFr : Nat → Int32} {rlo rhi mA mB : Nat → Int64} {c ok pr w : Int32} {er : Nat → Int64} {t : Nat → Int32} (T : zTN cF cc cN inp nF nN stp mst prc al made amt op fx jn lets mF mN mNF mNN mS mM mC mW mCst mO m1 m2 mX mG mA mB) (G : zGp cN gc gfr gcl gof gfx gld fx mG) (H : zHN cN cF gcl mHh gof gfx hand mH) (cl : 0 < cN ∧ gcl = 0) (hc : 0 ≤ c ∧ c ≤ 1023) (L : zFL cN mFn gfx mG mFr) (h : zTry cF cc cN gc gof gfx stp mst prc al made amt op rlo rhi c ok pr er) (ht : fn_X12_triesChoice c mFn mN mH mTr mFr mF mG = some t) (hp : fn_X12_costTried mCst mN m1 t m2 mC = some w) (ok0 : ¬ ok = 0) : w = pr := by
  obtain ⟨into, row, er0, fa, rs, e1, e2, e3⟩ := h
  exact (zPriceEq T (zUnf T G H cl hc L.1 L.2 e1 ht) (e3 ok0) hp).symm
/-! what the class keeps of all CHOICES -/
noncomputable def zAn (al : Nat → Int32) : Nat → Int32 := zct (fun k => decide (¬ al k = (-1)))
noncomputable def zOc (ok : Nat → Int32) : Nat → Int32 := zct (fun k => decide (¬ ok k = 0))
noncomputable def zFS (cF cc cN gc : Int32) (gof gfx stp mst prc al made amt op : Nat → Int32) (rlo rhi : Nat → Int64) (k ans : Int32) (ok pr : Nat → Int32) (er : Nat → Nat → Int64) (many b bp : Int32) (P E : Nat → Int32) : Prop :=
  (∀ c : Int32, 0 ≤ c → c < k → zTry cF cc cN gc gof gfx stp mst prc al made amt op rlo rhi c (ok c.toNatClampNeg) (pr c.toNatClampNeg) (er c.toNatClampNeg)) ∧ many = zOc ok k.toNatClampNeg ∧ zBs k ok pr b bp ∧ (∀ c : Int32, 0 ≤ c → c < k → ¬ ok c.toNatClampNeg = 0 → P (zOc ok c.toNatClampNeg).toNatClampNeg = pr c.toNatClampNeg ∧ ∀ i : Int32, 0 ≤ i → i < cN → ¬ al i.toNatClampNeg = (-1) → E (zOc ok c.toNatClampNeg * ans + zAn al i.toNatClampNeg).toNatClampNeg = (er c.toNatClampNeg i.toNatClampNeg).toInt32)
theorem zOc_c {ok ok' : Nat → Int32} {k : Nat} (h : ∀ n : Nat, n < k → ok' n = ok n) : zOc ok' k = zOc ok k := zct_c _ (fun j hj => by rw [h j hj])
theorem zidx {q m a s : Int32} (hq : 0 ≤ q) (hqm : q < m) (hm : m ≤ 1024) (ha : a ≤ 14) (hs : 0 ≤ s) (hsa : s < a) : 0 ≤ q * a + s ∧ q * a + s < m * a ∧ q * a + a ≤ m * a ∧ 0 ≤ q * a ∧ q * a ≤ 14336 := by
  have k1 := Int32.le_iff_toInt_le.mp hq
  have k2 := Int32.lt_iff_toInt_lt.mp hqm
  have k3 := Int32.le_iff_toInt_le.mp hm
  have k4 := Int32.le_iff_toInt_le.mp ha
  have k5 := Int32.le_iff_toInt_le.mp hs
  have k6 := Int32.lt_iff_toInt_lt.mp hsa
  rw [zi_0] at k1 k5
  rw [show (1024 : Int32).toInt = 1024 by decide +kernel] at k3
  rw [show (14 : Int32).toInt = 14 by decide +kernel] at k4
  have m1 : (q.toInt + 1) * a.toInt ≤ m.toInt * a.toInt := Int.mul_le_mul_of_nonneg_right (by omega) (by omega)
  have m2 : m.toInt * a.toInt ≤ 1024 * 14 := Int.mul_le_mul (by omega) (by omega) (by omega) (by omega)
  have m3 : 0 ≤ q.toInt * a.toInt := Int.mul_nonneg (by omega) (by omega)
  have m4 : (q.toInt + 1) * a.toInt = q.toInt * a.toInt + a.toInt := by rw [Int.add_mul, Int.one_mul]
  have e1 := zo_mul (x := q) (y := a) (z := q * a) rfl rfl rfl (by omega)
  have e2 := zo_mul (x := m) (y := a) (z := m * a) rfl rfl rfl (by omega)
  have e3 := zo_add (x := q * a) (y := s) (z := q * a + s) rfl e1 rfl (by omega)
  have e4 := zo_add (x := q * a) (y := a) (z := q * a + a) rfl e1 rfl (by omega)
  refine ⟨Int32.le_iff_toInt_le.mpr (by rw [zi_0]; omega), Int32.lt_iff_toInt_lt.mpr (by omega), Int32.le_iff_toInt_le.mpr (by omega), Int32.le_iff_toInt_le.mpr (by rw [zi_0]; omega), Int32.le_iff_toInt_le.mpr ?_⟩
  rw [show (14336 : Int32).toInt = 14336 by decide +kernel]
  omega
theorem zidx0 {q m a N : Int32} (hq : 0 ≤ q) (hqm : q < m) (hm : m ≤ 1024) (ha : 0 ≤ a ∧ a ≤ 14) (hN : m * a ≤ N) : 0 ≤ q * a ∧ q * a ≤ 14336 ∧ q * a + a ≤ N := by
  by_cases c : a = 0
  · rw [c] at hN ⊢
    rw [Int32.mul_zero] at hN ⊢
    rw [Int32.add_zero]
    exact ⟨by decide, by decide, hN⟩
  · obtain ⟨-, -, z3, z4, z5⟩ := zidx hq hqm hm ha.2 (Int32.le_refl 0) (show 0 < a by grind)
    exact ⟨z4, z5, by grind⟩
theorem zi14b {i c : Int32} (h0 : 0 ≤ i) (h1 : i < c) (h2 : c ≤ 14) : 0 ≤ i + 1 ∧ i + 1 ≤ c ∧ i ≤ 14 ∧ i ≤ 1200 := by grind
theorem zi15 {i c : Int32} (h1 : i < c) (h2 : c ≤ 14) : i < 100000 := by grind
theorem zan1 {B ans N5 z : Int32} (hB : 0 ≤ B ∧ B ≤ 14336) (ha : ans ≤ 14) (h5 : B + ans ≤ N5) (h0 : 0 ≤ z) (h1 : z < ans) : ¬ N5 ≤ B + z ∧ 0 ≤ B + z ∧ B ≤ B + z := by
  have k1 := Int32.le_iff_toInt_le.mp hB.1
  have k2 := Int32.le_iff_toInt_le.mp hB.2
  have k3 := Int32.le_iff_toInt_le.mp ha
  have k4 := Int32.le_iff_toInt_le.mp h5
  have k5 := Int32.le_iff_toInt_le.mp h0
  have k6 := Int32.lt_iff_toInt_lt.mp h1
  rw [zi_0] at k1 k5
  rw [show (14336 : Int32).toInt = 14336 by decide +kernel] at k2
  rw [show (14 : Int32).toInt = 14 by decide +kernel] at k3
  have e1 := zo_add (x := B) (y := ans) (z := B + ans) rfl rfl rfl (by omega)
  have e2 := zo_add (x := B) (y := z) (z := B + z) rfl rfl rfl (by omega)
  refine ⟨Int32.not_le.mpr (Int32.lt_iff_toInt_lt.mpr (by omega)), Int32.le_iff_toInt_le.mpr (by rw [zi_0]; omega), Int32.le_iff_toInt_le.mpr (by omega)⟩
theorem zj14 {i j : Int32} (h0 : 0 ≤ i) (h1 : j < i + 1) (h2 : i ≤ 14) : j ≤ 14 := by grind
theorem zad0 {B z j : Int32} (hB : 0 ≤ B ∧ B ≤ 14336) (h : 0 ≤ z ∧ z ≤ j) (hj : j ≤ 14) : 0 ≤ B + z := by grind
theorem zadn {B u v : Int32} (e : B + u = B + v) (h : u < v) : False := by
  have e : u = v := by grind
  rw [e] at h
  exact Int32.lt_irrefl h
set_option maxHeartbeats 4000000 in
theorem zKeep {c pr ans many b bp cN N5 : Int32} {n1 n5 : Nat} {P al E : Nat → Int32} {rer : Nat → Int64} {x : Int32 × Int32 × Int32 × (Nat → Int32) × (Nat → Int32)} (hN : 0 ≤ cN ∧ cN ≤ 14) (ha : ans = zAn al cN.toNatClampNeg) (h1 : many < Int32.ofNat n1) (hB : 0 ≤ many * ans ∧ many * ans ≤ 14336) (e5 : N5 = Int32.ofNat n5) (h5 : many * ans + ans ≤ N5) (h : fn_X1_keep c pr ans many b bp n1 P cN al n5 E rer = some x) : x.1 = many + 1 ∧ ((b = (-1) ∨ pr < bp) ∧ x.2.1 = c ∧ x.2.2.1 = pr ∨ (¬ b = (-1) ∧ bp ≤ pr) ∧ x.2.1 = b ∧ x.2.2.1 = bp) ∧ x.2.2.2.1 = upd P many.toNatClampNeg pr ∧ (∀ i : Int32, 0 ≤ i → i < cN → ¬ al i.toNatClampNeg = (-1) → x.2.2.2.2 (many * ans + zAn al i.toNatClampNeg).toNatClampNeg = (rer i.toNatClampNeg).toInt32) ∧ (∀ j : Int32, 0 ≤ j → j < many * ans → x.2.2.2.2 j.toNatClampNeg = E j.toNatClampNeg) := by
  unfold fn_X1_keep at h
  rw [if_pos h1, ← e5] at h
  obtain ⟨-, h⟩ := zg_s h
  generalize many * ans = B at hB h5 h ⊢
  have hA := zct_b32 (b := fun k => decide (¬ al k = (-1))) hN.1 hN.2
  rw [show zct (fun k => decide (¬ al k = (-1))) cN.toNatClampNeg = ans from ha.symm] at hA
  have ans14 : 0 ≤ ans ∧ ans ≤ 14 := ⟨hA.1, by have := hA.2; (first | ((try clear h); grind) | grind)⟩
  refine zl_ip (P := fun x : Int32 × Int32 × Int32 × (Nat → Int32) × (Nat → Int32) => x.1 = many + 1 ∧ ((b = (-1) ∨ pr < bp) ∧ x.2.1 = c ∧ x.2.2.1 = pr ∨ (¬ b = (-1) ∧ bp ≤ pr) ∧ x.2.1 = b ∧ x.2.2.1 = bp) ∧ x.2.2.2.1 = upd P many.toNatClampNeg pr ∧ (∀ i : Int32, 0 ≤ i → i < cN → ¬ al i.toNatClampNeg = (-1) → x.2.2.2.2 (B + zAn al i.toNatClampNeg).toNatClampNeg = (rer i.toNatClampNeg).toInt32) ∧ (∀ j : Int32, 0 ≤ j → j < B → x.2.2.2.2 j.toNatClampNeg = E j.toNatClampNeg)) (fun s => 0 ≤ s.2.1 ∧ s.2.1 ≤ cN ∧ s.1 = B + zAn al s.2.1.toNatClampNeg ∧ (∀ i : Int32, 0 ≤ i → i < s.2.1 → ¬ al i.toNatClampNeg = (-1) → s.2.2 (B + zAn al i.toNatClampNeg).toNatClampNeg = (rer i.toNatClampNeg).toInt32) ∧ (∀ j : Int32, 0 ≤ j → j < B → s.2.2 j.toNatClampNeg = E j.toNatClampNeg)) ?_ _ _ _ ?_ h
  · intro s back o ⟨H1, H2, H3, H4, H5⟩ hb ho
    obtain ⟨a, i, row⟩ := s
    dsimp only at H1 H2 H3 H4 H5 ho
    by_cases d : cN ≤ i
    · rw [if_pos d] at ho
      have ei : i = cN := Int32.le_antisymm H2 d
      rw [ei] at H4
      simp only [zj] at ho
      by_cases q : b = (-1)
      · rw [if_pos q] at ho
        rw [← Option.some.inj ho]
        exact ⟨rfl, Or.inl ⟨Or.inl q, rfl, rfl⟩, rfl, H4, H5⟩
      · rw [if_neg q] at ho
        by_cases w : bp ≤ pr
        · rw [if_pos w] at ho
          rw [← Option.some.inj ho]
          exact ⟨rfl, Or.inr ⟨⟨q, w⟩, rfl, rfl⟩, rfl, H4, H5⟩
        · rw [if_neg w] at ho
          rw [← Option.some.inj ho]
          exact ⟨rfl, Or.inl ⟨Or.inr (Int32.not_le.mp w), rfl, rfl⟩, rfl, H4, H5⟩
    · rw [if_neg d] at ho
      have hi : 0 ≤ i ∧ i < cN := ⟨H1, Int32.not_le.mp d⟩
      have i14 : 0 ≤ i ∧ i < 100000 := ⟨H1, zi15 hi.2 hN.2⟩
      have i1 : 0 ≤ i + 1 ∧ i + 1 ≤ cN ∧ i ≤ 14 ∧ i ≤ 1200 := zi14b H1 hi.2 hN.2
      rw [zIsAns hN.2 hi, zb_some] at ho
      by_cases q : al i.toNatClampNeg = (-1)
      · rw [if_pos q, if_pos rfl] at ho
        refine hb _ _ ?_ ho
        refine ⟨i1.1, i1.2.1, ?_, fun j j0 j1 j2 => ?_, H5⟩
        · show a = B + zAn al (i + 1).toNatClampNeg
          rw [H3]
          congr 1
          exact (zct_f (b := fun k => decide (¬ al k = (-1))) H1 i1.2.2.2 (fun z => (of_decide_eq_true z) q)).symm
        · have j1 : j < i + 1 := j1
          rcases zlt1 i14 j1 with z | z
          · rw [z] at j2; exact absurd q j2
          · exact H4 j j0 z j2
      · rw [if_neg q, if_neg (show ¬ (1 : Int32) = 0 by decide)] at ho
        have bi := zct_b32 (b := fun k => decide (¬ al k = (-1))) H1 i1.2.2.1
        have li := zct_lt (b := fun k => decide (¬ al k = (-1))) H1 hi.2 hN.2 (decide_eq_true q)
        rw [show zct (fun k => decide (¬ al k = (-1))) cN.toNatClampNeg = ans from ha.symm] at li
        have ea : zAn al i.toNatClampNeg = zct (fun k => decide (¬ al k = (-1))) i.toNatClampNeg := rfl
        have an : ¬ N5 ≤ a ∧ 0 ≤ a ∧ B ≤ a := by
          rw [H3, ea]
          exact zan1 hB ans14.2 h5 bi.1 li
        rw [if_neg an.1] at ho
        obtain ⟨-, ho⟩ := zg_s ho
        obtain ⟨-, ho⟩ := zg_s ho
        simp only [zn] at ho
        refine hb _ _ ?_ ho
        refine ⟨i1.1, i1.2.1, ?_, fun j j0 j1 j2 => ?_, fun j j0 j1 => ?_⟩
        · show a + 1 = B + zAn al (i + 1).toNatClampNeg
          rw [show zAn al (i + 1).toNatClampNeg = zAn al i.toNatClampNeg + 1 from zct_t (b := fun k => decide (¬ al k = (-1))) H1 i1.2.2.2 (decide_eq_true q), H3, Int32.add_assoc]
        · have j1 : j < i + 1 := j1
          have bj := zct_b32 (b := fun k => decide (¬ al k = (-1))) j0 (zj14 H1 j1 i1.2.2.1)
          have j0' : 0 ≤ B + zAn al j.toNatClampNeg := by
            rw [show zAn al j.toNatClampNeg = zct (fun k => decide (¬ al k = (-1))) j.toNatClampNeg from rfl]
            exact zad0 hB bj (zj14 H1 j1 i1.2.2.1)
          show upd row a.toNatClampNeg (rer i.toNatClampNeg).toInt32 (B + zAn al j.toNatClampNeg).toNatClampNeg = (rer j.toNatClampNeg).toInt32
          rw [zup an.2.1 j0']
          rcases zlt1 i14 j1 with z | z
          · rw [if_pos (by rw [z, H3]), z]
          · have lj := zct_lt (b := fun k => decide (¬ al k = (-1))) j0 z i1.2.2.1 (decide_eq_true j2)
            rw [if_neg (fun w => ?_)]
            · exact H4 j j0 z j2
            · rw [H3, ea, show zAn al j.toNatClampNeg = zct (fun k => decide (¬ al k = (-1))) j.toNatClampNeg from rfl] at w
              exact zadn w lj
        · show upd row a.toNatClampNeg (rer i.toNatClampNeg).toInt32 j.toNatClampNeg = E j.toNatClampNeg
          rw [zup an.2.1 j0, if_neg (fun e => by rw [e] at j1; exact absurd j1 (Int32.not_lt.mpr an.2.2))]
          exact H5 j j0 j1
  · refine ⟨Int32.le_refl 0, hN.1, ?_, fun i i0 i1 => absurd i1 (by show ¬ i < 0; (first | ((try clear h); (try clear hb); (try clear ho); grind) | grind)), fun _ _ _ => rfl⟩
    show B = B + zAn al (0 : Int32).toNatClampNeg
    rw [zn01.1]
    exact (Int32.add_zero B).symm
theorem zFS_0 {cF cc cN gc : Int32} {stp mst prc al made amt op gof gfx : Nat → Int32} {rlo rhi : Nat → Int64} {ans bp : Int32} {ok pr P E : Nat → Int32} {er : Nat → Nat → Int64} : zFS cF cc cN gc gof gfx stp mst prc al made amt op rlo rhi 0 ans ok pr er 0 (-1) bp P E := by
  refine ⟨fun c c0 c1 => absurd c1 (by show ¬ c < 0; grind), ?_, zBs_0, fun c c0 c1 => absurd c1 (by show ¬ c < 0; grind)⟩
  show (0 : Int32) = zOc ok (0 : Int32).toNatClampNeg
  rw [zn01.1]
  rfl
theorem zFS_no {cF cc cN gc : Int32} {stp mst prc al made amt op gof gfx : Nat → Int32} {rlo rhi : Nat → Int64} {k ans many b bp p : Int32} {ok pr P E : Nat → Int32} {er : Nat → Nat → Int64} {e : Nat → Int64} (hk : 0 ≤ k ∧ k ≤ 1023) (h : zFS cF cc cN gc gof gfx stp mst prc al made amt op rlo rhi k ans ok pr er many b bp P E) (t : zTry cF cc cN gc gof gfx stp mst prc al made amt op rlo rhi k 0 p e) : zFS cF cc cN gc gof gfx stp mst prc al made amt op rlo rhi (k + 1) ans (zUp ok k.toNatClampNeg 0) (zUp pr k.toNatClampNeg p) (zUp er k.toNatClampNeg e) many b bp P E := by
  have kb : 0 ≤ k ∧ k < 100000 := ⟨hk.1, by have := hk.2; clear h t; grind⟩
  have kn : k ≤ 1200 := by have := hk.2; clear h t; grind
  obtain ⟨h1, h2, h3, h4⟩ := h
  have oe : ∀ n : Nat, n < k.toNatClampNeg → zUp ok k.toNatClampNeg 0 n = ok n := fun n hn => zUp_o hn
  refine ⟨fun c c0 c1 => ?_, ?_, ?_, fun c c0 c1 c2 => ?_⟩
  · rcases zlt1 kb c1 with w | w
    · rw [w, zUp_s, zUp_s, zUp_s]; exact t
    · have l := zcl' c0 w
      rw [zUp_o l, zUp_o l, zUp_o l]; exact h1 c c0 w
  · have e1 : zOc (zUp ok k.toNatClampNeg 0) (k + 1).toNatClampNeg = zOc (zUp ok k.toNatClampNeg 0) k.toNatClampNeg := zct_f (b := fun n => decide (¬ zUp ok k.toNatClampNeg 0 n = 0)) hk.1 kn (fun z => (of_decide_eq_true z) zUp_s)
    rw [e1, zOc_c oe]; exact h2
  · exact zBs_no kb (zBs_c h3 (fun n hn => ⟨zUp_o hn, zUp_o hn⟩)) zUp_s
  · rcases zlt1 kb c1 with w | w
    · rw [w, zUp_s] at c2; exact absurd rfl c2
    · have l := zcl' c0 w
      rw [zUp_o l] at c2
      rw [zOc_c (fun n hn => oe n (Nat.lt_trans hn l)), zUp_o l, zUp_o l]
      exact h4 c c0 w c2
set_option maxHeartbeats 1000000 in
theorem zFS_yes {cF cc cN gc : Int32} {stp mst prc al made amt op gof gfx : Nat → Int32} {rlo rhi : Nat → Int64} {k ans many b bp p o : Int32} {ok pr P E : Nat → Int32} {er : Nat → Nat → Int64} {e : Nat → Int64} {x : Int32 × Int32 × Int32 × (Nat → Int32) × (Nat → Int32)} (hN : 0 ≤ cN ∧ cN ≤ 14) (hk : 0 ≤ k ∧ k ≤ 1023) (ha : ans = zAn al cN.toNatClampNeg) (h : zFS cF cc cN gc gof gfx stp mst prc al made amt op rlo rhi k ans ok pr er many b bp P E) (o0 : ¬ o = 0) (t : zTry cF cc cN gc gof gfx stp mst prc al made amt op rlo rhi k o p e) (x1 : x.1 = many + 1) (x2 : (b = (-1) ∨ p < bp) ∧ x.2.1 = k ∧ x.2.2.1 = p ∨ (¬ b = (-1) ∧ bp ≤ p) ∧ x.2.1 = b ∧ x.2.2.1 = bp) (x3 : x.2.2.2.1 = upd P many.toNatClampNeg p) (x4 : ∀ i : Int32, 0 ≤ i → i < cN → ¬ al i.toNatClampNeg = (-1) → x.2.2.2.2 (many * ans + zAn al i.toNatClampNeg).toNatClampNeg = (e i.toNatClampNeg).toInt32) (x5 : ∀ j : Int32, 0 ≤ j → j < many * ans → x.2.2.2.2 j.toNatClampNeg = E j.toNatClampNeg) : zFS cF cc cN gc gof gfx stp mst prc al made amt op rlo rhi (k + 1) ans (zUp ok k.toNatClampNeg o) (zUp pr k.toNatClampNeg p) (zUp er k.toNatClampNeg e) x.1 x.2.1 x.2.2.1 x.2.2.2.1 x.2.2.2.2 := by
  have kk : k < 100000 ∧ k ≤ 1200 ∧ k ≤ 1024 := by have := hk.2; clear h t x4 x5; grind
  have kb : 0 ≤ k ∧ k < 100000 := ⟨hk.1, kk.1⟩
  obtain ⟨h1, h2, h3, h4⟩ := h
  have oe : ∀ n : Nat, n < k.toNatClampNeg → zUp ok k.toNatClampNeg o n = ok n := fun n hn => zUp_o hn
  have em : many = zct (fun n => decide (¬ ok n = 0)) k.toNatClampNeg := h2
  have mb := zct_bI (b := fun n => decide (¬ ok n = 0)) hk.1 kk.2.2
  rw [← em] at mb
  have m1024 : many ≤ 1024 := Int32.le_trans mb.2 kk.2.2
  have a14 : ans ≤ 14 := by
    have := zct_b32 (b := fun k => decide (¬ al k = (-1))) hN.1 hN.2
    rw [ha]
    exact Int32.le_trans this.2 hN.2
  have e1 : zOc (zUp ok k.toNatClampNeg o) k.toNatClampNeg = many := by rw [zOc_c oe]; exact h2.symm
  refine ⟨fun c c0 c1 => ?_, ?_, ?_, fun c c0 c1 c2 => ?_⟩
  · rcases zlt1 kb c1 with w | w
    · rw [w, zUp_s, zUp_s, zUp_s]; exact t
    · have l := zcl' c0 w
      rw [zUp_o l, zUp_o l, zUp_o l]; exact h1 c c0 w
  · rw [x1, show zOc (zUp ok k.toNatClampNeg o) (k + 1).toNatClampNeg = zOc (zUp ok k.toNatClampNeg o) k.toNatClampNeg + 1 from zct_t (b := fun n => decide (¬ zUp ok k.toNatClampNeg o n = 0)) hk.1 kk.2.1 (decide_eq_true (by rw [zUp_s]; exact o0)), e1]
  · have hb := zBs_c (ok' := zUp ok k.toNatClampNeg o) (pr' := zUp pr k.toNatClampNeg p) h3 (fun n hn => ⟨zUp_o hn, zUp_o hn⟩)
    rcases x2 with ⟨y1, y2, y3⟩ | ⟨y1, y2, y3⟩
    · rw [y2, y3]
      have := zBs_up kb hb (by rw [zUp_s]; exact o0) (by rw [zUp_s]; exact y1)
      rw [zUp_s] at this
      exact this
    · rw [y2, y3]; exact zBs_st kb hb y1.1 (by rw [zUp_s]; exact y1.2)
  · rcases zlt1 kb c1 with w | w
    · rw [w, e1, zUp_s, zUp_s, x3]
      refine ⟨?_, fun i i0 i1 i2 => x4 i i0 i1 i2⟩
      rw [zup mb.1 mb.1, if_pos rfl]
    · have l := zcl' c0 w
      rw [zUp_o l] at c2
      rw [zOc_c (fun n hn => oe n (Nat.lt_trans hn l)), zUp_o l, zUp_o l, x3]
      obtain ⟨g1, g2⟩ := h4 c c0 w c2
      have ql := zct_lI (b := fun n => decide (¬ ok n = 0)) c0 w kk.2.2 (decide_eq_true c2)
      rw [← em] at ql
      have qb := zct_bI (b := fun n => decide (¬ ok n = 0)) c0 (Int32.le_trans (Int32.le_of_lt w) kk.2.2)
      refine ⟨?_, fun i i0 i1 i2 => ?_⟩
      · have q0 : 0 ≤ zOc ok c.toNatClampNeg := qb.1
        have q1 : zOc ok c.toNatClampNeg < many := ql
        rw [zup mb.1 q0, if_neg (fun z => by rw [z] at q1; exact absurd q1 Int32.lt_irrefl)]
        exact g1
      · have si := zct_lt (b := fun k => decide (¬ al k = (-1))) i0 i1 hN.2 (decide_eq_true i2)
        have sb := zct_b32 (b := fun k => decide (¬ al k = (-1))) i0 (Int32.le_trans (Int32.le_of_lt i1) hN.2)
        rw [show zct (fun k => decide (¬ al k = (-1))) cN.toNatClampNeg = ans from ha.symm] at si
        obtain ⟨z1, z2, -⟩ := zidx qb.1 ql m1024 a14 sb.1 si
        exact (x5 _ z1 z2).trans (g2 i i0 i1 i2)
theorem zRoom {c a : Int32} {n1 n2 n3 n4 n5 : Nat} {f1 f2 f3 f4 f5 : Nat → Int32} {x : (Nat → Int32) × Nat × (Nat → Int32) × Nat × (Nat → Int32) × Nat × (Nat → Int32) × Nat × (Nat → Int32) × Nat} (hc : 0 ≤ c) (hca : 0 ≤ c * a) (h : fn_X1_makeRoom c a n1 f1 n2 f2 n3 f3 n4 f4 n5 f5 = some x) : c ≤ Int32.ofNat x.2.1 ∧ c * a ≤ Int32.ofNat x.2.2.2.1 := by
  have e0 : c ≤ Int32.ofNat c.toNatClampNeg := by rw [zofn' _ hc]; exact Int32.le_refl _
  have e1 : c * a ≤ Int32.ofNat (c * a).toNatClampNeg := by rw [zofn' _ hca]; exact Int32.le_refl _
  unfold fn_X1_makeRoom at h
  by_cases d : c ≤ Int32.ofNat n1
  · rw [if_pos d] at h
    by_cases e : c * a ≤ Int32.ofNat n2
    · rw [if_pos e] at h
      rw [← Option.some.inj h]
      exact ⟨d, e⟩
    · rw [if_neg e] at h
      obtain ⟨-, h⟩ := za_s h
      rw [← Option.some.inj h]
      exact ⟨d, e1⟩
  · rw [if_neg d] at h
    obtain ⟨-, h⟩ := za_s h
    obtain ⟨-, h⟩ := za_s h
    obtain ⟨-, h⟩ := za_s h
    obtain ⟨-, h⟩ := za_s h
    by_cases e : c * a ≤ Int32.ofNat n2
    · rw [if_pos e] at h
      rw [← Option.some.inj h]
      exact ⟨e0, e⟩
    · rw [if_neg e] at h
      obtain ⟨-, h⟩ := za_s h
      rw [← Option.some.inj h]
      exact ⟨e0, e1⟩
noncomputable def zpw (f : Int32) : Nat → Int32
  | 0 => 1
  | n + 1 => zpw f n * f
theorem zpw_s {f g : Int32} (h0 : 0 ≤ g) (h1 : g ≤ 1200) : zpw f (g + 1).toNatClampNeg = zpw f g.toNatClampNeg * f := by
  rw [zNx h0 h1]
  rfl
noncomputable def zFA (cF cc cN gc gfr : Int32) (gof gfx stp mst prc al made amt op : Nat → Int32) (rlo rhi : Nat → Int64) (ans many b bp : Int32) (P : Nat → Int32) (nP : Nat) (E : Nat → Int32) (nE : Nat) : Prop := ∃ (q : Int32) (ok pr : Nat → Int32) (er : Nat → Nat → Int64), q = zpw cF gfr.toNatClampNeg ∧ zFS cF cc cN gc gof gfx stp mst prc al made amt op rlo rhi q ans ok pr er many b bp P E ∧ ans = zAn al cN.toNatClampNeg ∧ (0 ≤ q ∧ q ≤ 1024) ∧ q ≤ Int32.ofNat nP ∧ q * ans ≤ Int32.ofNat nE
set_option maxHeartbeats 8000000 in
theorem zSrch {cF cc cN gc gfr : Int32} {stp mst prc al made amt op gof gfx : Nat → Int32} {rlo rhi : Nat → Int64} {bp0 fa0 rs0 : Int32} {n5 n6 n7 n8 n9 : Nat} {P0 E0 f7 f8 f9 ch0 : Nat → Int32} {rr : Nat → Int64} {x : Int32 × Int32 × Int32 × Int32 × (Nat → Int32) × Nat × (Nat → Int32) × Nat × (Nat → Int32) × Nat × (Nat → Int32) × Nat × (Nat → Int32) × Nat × (Nat → Int32) × Int32 × Int32 × (Nat → Int64)} (hN : 0 ≤ cN ∧ cN ≤ 14) (hF : 0 ≤ cF ∧ cF ≤ 4) (hg : 0 ≤ gfr ∧ gfr ≤ 5) (h : fn_X1_searchAll 0 (-1) bp0 cF cc gc gfr cN al n5 P0 n6 E0 n9 f9 n7 f7 n8 f8 gfx ch0 fa0 rs0 gof stp op made rr amt rlo rhi mst prc = some x) : zFA cF cc cN gc gfr gof gfx stp mst prc al made amt op rlo rhi x.1 x.2.1 x.2.2.1 x.2.2.2.1 x.2.2.2.2.1 x.2.2.2.2.2.1 x.2.2.2.2.2.2.1 x.2.2.2.2.2.2.2.1 := by
  unfold fn_X1_searchAll at h
  refine zl_ip (P := fun x : Int32 × Int32 × Int32 × Int32 × (Nat → Int32) × Nat × (Nat → Int32) × Nat × (Nat → Int32) × Nat × (Nat → Int32) × Nat × (Nat → Int32) × Nat × (Nat → Int32) × Int32 × Int32 × (Nat → Int64) => zFA cF cc cN gc gfr gof gfx stp mst prc al made amt op rlo rhi x.1 x.2.1 x.2.2.1 x.2.2.2.1 x.2.2.2.2.1 x.2.2.2.2.2.1 x.2.2.2.2.2.2.1 x.2.2.2.2.2.2.2.1) (fun s => (0 ≤ s.2 ∧ s.2 ≤ gfr) ∧ s.1 = zpw cF s.2.toNatClampNeg ∧ zPow s.2 s.1) ?_ _ _ _ ?_ h
  rotate_left
  · exact ⟨⟨Int32.le_refl 0, hg.1⟩, by show (1 : Int32) = zpw cF (0 : Int32).toNatClampNeg; rw [zn01.1]; rfl, zPow_0⟩
  intro s back o ⟨H1, H2, H3⟩ hb ho
  obtain ⟨q, g⟩ := s
  dsimp only at H1 H2 H3 ho
  obtain ⟨j, ej, ho⟩ := zj_g ho
  have fin : g = gfr → j () = some o → zFA cF cc cN gc gfr gof gfx stp mst prc al made amt op rlo rhi o.1 o.2.1 o.2.2.1 o.2.2.2.1 o.2.2.2.2.1 o.2.2.2.2.2.1 o.2.2.2.2.2.2.1 o.2.2.2.2.2.2.2.1 := by
    intro eg hj
    have hj := zj_s ej hj
    clear ej ho hb
    obtain ⟨an, han, hj⟩ := zb_s hj
    obtain ⟨rm, hrm, hj⟩ := zb_s hj
    have ea : an = zAn al cN.toNatClampNeg := zCountA ⟨hN.1, Int32.le_refl _, hN.2⟩ han
    rw [eg] at H2
    obtain ⟨pr1, pr2, -, -⟩ := zPow_rng H3
    have ab : 0 ≤ an ∧ an ≤ 14 := by
      have := zct_b32 (b := fun k => decide (¬ al k = (-1))) hN.1 hN.2
      rw [ea]
      exact ⟨this.1, Int32.le_trans this.2 hN.2⟩
    have mq := zmul14 q an pr1 pr2 ab.1 ab.2
    have rm2 := zRoom pr1 mq.1 hrm
    refine zl_ip (P := fun x : Int32 × Int32 × Int32 × Int32 × (Nat → Int32) × Nat × (Nat → Int32) × Nat × (Nat → Int32) × Nat × (Nat → Int32) × Nat × (Nat → Int32) × Nat × (Nat → Int32) × Int32 × Int32 × (Nat → Int64) => zFA cF cc cN gc gfr gof gfx stp mst prc al made amt op rlo rhi x.1 x.2.1 x.2.2.1 x.2.2.2.1 x.2.2.2.2.1 x.2.2.2.2.2.1 x.2.2.2.2.2.2.1 x.2.2.2.2.2.2.2.1) (fun s => (0 ≤ s.1 ∧ s.1 ≤ q) ∧ ∃ (ok pr : Nat → Int32) (er : Nat → Nat → Int64), zFS cF cc cN gc gof gfx stp mst prc al made amt op rlo rhi s.1 an ok pr er s.2.1 s.2.2.1 s.2.2.2.1 s.2.2.2.2.2.2.1 s.2.2.2.2.2.2.2.1) ?_ _ _ _ ?_ hj
    rotate_left
    · exact ⟨⟨Int32.le_refl 0, pr1⟩, fun _ => 0, fun _ => 0, fun _ _ => 0, zFS_0⟩
    intro s back2 o2 ⟨K1, ok, pr, er, K2⟩ hb2 ho2
    obtain ⟨c, many, b, bp, fa, rs, P, E, ch, re⟩ := s
    dsimp only at K1 K2 ho2
    by_cases d : q ≤ c
    · rw [if_pos d] at ho2
      have ec : c = q := Int32.le_antisymm K1.2 d
      rw [ec] at K2
      rw [← Option.some.inj ho2]
      exact ⟨q, ok, pr, er, H2, K2, ea, ⟨pr1, pr2⟩, rm2.1, rm2.2⟩
    · rw [if_neg d] at ho2
      have cq : c < q := Int32.not_le.mp d
      have c1 : (0 ≤ c ∧ c ≤ 1023) ∧ c ≤ 1024 ∧ 0 ≤ c + 1 ∧ c + 1 ≤ q := by have := K1.1; clear K2 hb2 ho2; (first | ((try clear h); (try clear hb); (try clear ho); (try clear ej); (try clear fin); (try clear hj); (try clear han); (try clear hrm); grind) | grind)
      obtain ⟨row, hrow, ho2⟩ := zb_s ho2
      obtain ⟨rk, hrk, ho2⟩ := zb_s ho2
      obtain ⟨okc, fac, rsc, erc⟩ := rk
      dsimp only at ho2
      by_cases e : okc = 0
      · rw [if_pos e] at ho2
        rw [e] at hrk
        have t : zTry cF cc cN gc gof gfx stp mst prc al made amt op rlo rhi c 0 0 erc := ⟨_, _, _, _, _, hrow, hrk, fun z => absurd rfl z⟩
        refine hb2 _ _ ?_ ho2
        exact ⟨⟨c1.2.2.1, c1.2.2.2⟩, zUp ok c.toNatClampNeg 0, zUp pr c.toNatClampNeg 0, zUp er c.toNatClampNeg erc, zFS_no c1.1 K2 t⟩
      · rw [if_neg e] at ho2
        obtain ⟨price, hpr, ho2⟩ := zb_s ho2
        obtain ⟨kp, hkp, ho2⟩ := zb_s ho2
        have t : zTry cF cc cN gc gof gfx stp mst prc al made amt op rlo rhi c okc price erc := ⟨_, _, _, _, _, hrow, hrk, fun _ => hpr⟩
        have mb : 0 ≤ many ∧ many ≤ c := by rw [K2.2.1]; exact zct_bI (b := fun n => decide (¬ ok n = 0)) K1.1 c1.2.1
        have mq2 : many < q := Int32.lt_of_le_of_lt mb.2 cq
        have i0 := zidx0 mb.1 mq2 pr2 ab rm2.2
        obtain ⟨x1, x2, x3, x4, x5⟩ := zKeep hN ea (Int32.lt_of_lt_of_le mq2 rm2.1) ⟨i0.1, i0.2.1⟩ rfl i0.2.2 hkp
        refine hb2 _ _ ?_ ho2
        exact ⟨⟨c1.2.2.1, c1.2.2.2⟩, zUp ok c.toNatClampNeg okc, zUp pr c.toNatClampNeg price, zUp er c.toNatClampNeg erc, zFS_yes hN c1.1 ea K2 e t x1 x2 x3 x4 x5⟩
  by_cases c1 : gfr ≤ g
  · rw [if_pos c1] at ho
    exact fin (Int32.le_antisymm H1.2 c1) ho
  · rw [if_neg c1] at ho
    have g5 : ¬ 5 ≤ g ∧ 0 ≤ g + 1 ∧ g + 1 ≤ gfr ∧ g ≤ 1200 := by clear ej ho hb fin; (first | ((try clear h); (try clear hj); (try clear han); (try clear hrm); (try clear ho2); (try clear hrow); (try clear hrk); (try clear hpr); (try clear hkp); grind) | grind)
    rw [if_neg g5.1] at ho
    refine hb _ _ ?_ ho
    refine ⟨⟨g5.2.1, g5.2.2.1⟩, ?_, zPow_step H3 g5.1 hF.1 hF.2⟩
    show q * cF = zpw cF (g + 1).toNatClampNeg
    rw [zpw_s H1.1 g5.2.2.2, H2]
/-! the search over all CHOICES: what is kept of it, and the reference's -/
theorem zAllC {cF mFn : Int32} {mF : Nat → Int32} {x : Int32} (hF : mF 0 = cF) (hn : 0 ≤ mFn ∧ mFn ≤ 14) (h : fn_X12_allChoices mFn mF = some x) : x = zpw cF mFn.toNatClampNeg := by
  unfold fn_X12_allChoices at h
  rw [zn01.1, hF] at h
  refine zl_ip (P := fun x : Int32 => x = zpw cF mFn.toNatClampNeg) (fun s => (0 ≤ s.2 ∧ s.2 ≤ mFn) ∧ s.1 = zpw cF s.2.toNatClampNeg) ?_ _ _ _ ?_ h
  rotate_left
  · exact ⟨⟨Int32.le_refl 0, hn.1⟩, by show (1 : Int32) = zpw cF (0 : Int32).toNatClampNeg; rw [zn01.1]; rfl⟩
  intro s back o ⟨H1, H2⟩ hb ho
  obtain ⟨q, g⟩ := s
  dsimp only at H1 H2 ho
  by_cases c : mFn ≤ g
  · rw [if_pos c] at ho
    rw [← Option.some.inj ho, H2, Int32.le_antisymm H1.2 c]
  · rw [if_neg c] at ho
    have g5 : 0 ≤ g + 1 ∧ g + 1 ≤ mFn ∧ g ≤ 1200 := by clear ho hb; (first | ((try clear h); grind) | grind)
    refine hb _ _ ?_ ho
    refine ⟨⟨g5.1, g5.2.1⟩, ?_⟩
    show q * cF = zpw cF (g + 1).toNatClampNeg
    rw [zpw_s H1.1 g5.2.2, H2]
set_option maxHeartbeats 4000000 in
theorem zCheapC {cF cc cN inp gc gfr gcl mHh mFn mFa mFw : Int32} {nF nN stp mst prc al made amt op fx jn lets gof gfx gld rwd hand mF mN mCst mNF mNN mS mM mC mW mO m1 m2 mX mG mH mTr mFr : Nat → Int32} {rlo rhi mA mB mLe mGe mEr : Nat → Int64} {mWb : Int64} {q an many b bp : Int32} {ok pr P E : Nat → Int32} {er : Nat → Nat → Int64} {x : Int32 × Int32 × Int32 × (Nat → Int32) × (Nat → Int64) × (Nat → Int64) × (Nat → Int64)} (T : zTN cF cc cN inp nF nN stp mst prc al made amt op fx jn lets mF mN mNF mNN mS mM mC mW mCst mO m1 m2 mX mG mA mB) (G : zGp cN gc gfr gcl gof gfx gld fx mG) (R : zRN cN (-1) 0 op made amt rwd rlo rhi) (H : zHN cN cF gcl mHh gof gfx hand mH) (cl : 0 < cN ∧ gcl = 0) (L : zFL cN mFn gfx mG mFr) (hn : 0 ≤ mFn ∧ mFn ≤ 14) (hq : q = zpw cF mFn.toNatClampNeg ∧ 0 ≤ q ∧ q ≤ 1024) (K : zFS cF cc cN gc gof gfx stp mst prc al made amt op rlo rhi q an ok pr er many b bp P E) (h : fn_X12_cheapestChoice mFn (-1) mWb mFa mFw mF mN mH mTr mFr mG mCst m1 m2 mC mO mLe mA mB mGe mS mEr mM mW = some x) : x.1 = b := by
  obtain ⟨K1, -, K3, -⟩ := K
  unfold fn_X12_cheapestChoice at h
  obtain ⟨a, ha, h⟩ := zb_s h
  have ea : a = q := (zAllC T.1.1 hn ha).trans hq.1.symm
  rw [ea] at h
  clear ha
  refine zl_ip (P := fun x : Int32 × Int32 × Int32 × (Nat → Int32) × (Nat → Int64) × (Nat → Int64) × (Nat → Int64) => x.1 = b) (fun s => (0 ≤ s.2.2.1 ∧ s.2.2.1 ≤ q) ∧ zBs s.2.2.1 ok pr s.1 s.2.1) ?_ _ _ _ ?_ h
  rotate_left
  · exact ⟨⟨Int32.le_refl 0, hq.2.1⟩, zBs_0⟩
  intro s back o ⟨H1, H2⟩ hb ho
  obtain ⟨be, le, c, fa, fw, l1, g1, tr, em⟩ := s
  dsimp only at H1 H2 ho
  by_cases d : q ≤ c
  · rw [if_pos d] at ho
    rw [Int32.le_antisymm H1.2 d] at H2
    rw [← Option.some.inj ho]
    exact (zBs_eq H2 K3).1
  · rw [if_neg d] at ho
    have cq : c < q := Int32.not_le.mp d
    have cb : (0 ≤ c ∧ c ≤ 1023) ∧ (0 ≤ c ∧ c < 100000) ∧ 0 ≤ c + 1 ∧ c + 1 ≤ q := by have := H1.1; have := hq.2.2; clear H2 hb ho K1 K3 T G R H L; (first | ((try clear K); (try clear h); (try clear ha); grind) | grind)
    obtain ⟨t, ht, ho⟩ := zb_s ho
    obtain ⟨w, hw, ho⟩ := zb_s ho
    have ty := K1 c H1.1 cq
    have cost := fun z => zTryCost T G H cl cb.1 L ty ht hw z
    obtain ⟨j, ej, ho⟩ := zj_g ho
    have hj : (be = (-1) ∨ w < le) → j () = some o → o.1 = b := by
      intro hbe hj
      have hj := zj_s ej hj
      obtain ⟨y, hy, hj⟩ := zb_s hj
      obtain ⟨p1, -, -⟩ := zTryPass T G R H cl cb.1 L ty ht hy
      by_cases e : y.1 = 0
      · rw [if_pos e] at hj
        refine hb _ _ ?_ hj
        exact ⟨⟨cb.2.2.1, cb.2.2.2⟩, zBs_no cb.2.1 H2 (p1.symm.trans e)⟩
      · rw [if_neg e] at hj
        have o0 : ¬ ok c.toNatClampNeg = 0 := fun z => e (p1.trans z)
        have ec := cost o0
        have up := zBs_up cb.2.1 H2 o0 (by rw [← ec]; exact hbe)
        rw [← ec] at up
        refine hb _ _ ?_ hj
        exact ⟨⟨cb.2.2.1, cb.2.2.2⟩, up⟩
    by_cases e : be = (-1)
    · rw [if_pos e] at ho
      exact hj (Or.inl e) ho
    · rw [if_neg e] at ho
      by_cases f : le ≤ w
      · rw [if_pos f] at ho
        refine hb _ _ ?_ ho
        refine ⟨⟨cb.2.2.1, cb.2.2.2⟩, ?_⟩
        show zBs (c + 1) ok pr be le
        by_cases z : ok c.toNatClampNeg = 0
        · exact zBs_no cb.2.1 H2 z
        · exact zBs_st cb.2.1 H2 e (by rw [← cost z]; exact f)
      · rw [if_neg f] at ho
        exact hj (Or.inr (Int32.not_le.mp f)) ho
/-- what is kept of the search, while the TASK stays -/
noncomputable def zFC (cF cc cN gc gfr gcl : Int32) (gof gfx stp mst prc al made amt op : Nat → Int32) (rlo rhi : Nat → Int64) (rd an many b bp : Int32) (P : Nat → Int32) (nP : Nat) (E : Nat → Int32) (nE : Nat) : Prop := rd = 0 ∨ (0 < cN → gfr ≤ 5 → (¬ gcl = 0 ∧ many = 0 ∧ b = (-1)) ∨ (gcl = 0 ∧ zFA cF cc cN gc gfr gof gfx stp mst prc al made amt op rlo rhi an many b bp P nP E nE))
theorem zGfr {cF cc cN inp gc gfr gcl : Int32} {nF nN stp mst prc al made amt op fx jn lets gof gfx gld mF mN mCst mNF mNN mS mM mC mW mO m1 m2 mX mG : Nat → Int32} {mA mB : Nat → Int64} (T : zTN cF cc cN inp nF nN stp mst prc al made amt op fx jn lets mF mN mNF mNN mS mM mC mW mCst mO m1 m2 mX mG mA mB) (G : zGp cN gc gfr gcl gof gfx gld fx mG) : (0 ≤ gfr ∧ gfr ≤ 14) ∧ zFk gfx mG cN.toNatClampNeg = gfr := by
  have hN := T.2.1
  have l14 := z14' hN.2.1 hN.2.2
  have e : zFk gfx mG cN.toNatClampNeg = gfr := by rw [G.2, G.1.1]; exact (zFreeC gfx mG cN.toNatClampNeg l14).symm
  have b := zct_b32 (b := fun k => decide (mG k = Int32.ofNat k ∧ gfx (zRk mG k).toNatClampNeg = (-1))) hN.2.1 hN.2.2
  rw [show zct (fun k => decide (mG k = Int32.ofNat k ∧ gfx (zRk mG k).toNatClampNeg = (-1))) cN.toNatClampNeg = gfr from e] at b
  exact ⟨⟨b.1, Int32.le_trans b.2 hN.2.2⟩, e⟩
set_option maxHeartbeats 4000000 in
theorem zSea {cF cc cN inp gc gfr gcl uRd uAn uMn uBs uBp uFa uRs : Int32} {nF nN stp mst prc al made amt op fx jn lets gof gfx gld mF mN mCst mNF mNN mS mM mC mW mO m1 m2 mX mG uP uE uFp uFe uFm uCh : Nat → Int32} {rlo rhi mA mB uRe : Nat → Int64} {nQP nQE nQ3 nQ4 nQ5 : Nat} {x : Int32 × Int32 × Int32 × Int32 × Int32 × Int32 × (Nat → Int32) × Nat × (Nat → Int32) × Nat × (Nat → Int32) × Nat × (Nat → Int32) × Nat × (Nat → Int32) × Nat × (Nat → Int32) × Int32 × Int32 × (Nat → Int64)} (T : zTN cF cc cN inp nF nN stp mst prc al made amt op fx jn lets mF mN mNF mNN mS mM mC mW mCst mO m1 m2 mX mG mA mB) (G : zGp cN gc gfr gcl gof gfx gld fx mG) (F : zFC cF cc cN gc gfr gcl gof gfx stp mst prc al made amt op rlo rhi uRd uAn uMn uBs uBp uP nQP uE nQE) (h : fn_X1_search uRd uAn uMn uBs uBp cF cc cN gc gfr gcl al nQP uP nQE uE nQ4 uFe nQ3 uFp nQ5 uFm gfx uCh uFa uRs gof stp op made uRe amt rlo rhi mst prc = some x) : zFC cF cc cN gc gfr gcl gof gfx stp mst prc al made amt op rlo rhi x.2.1 x.2.2.1 x.2.2.2.1 x.2.2.2.2.1 x.2.2.2.2.2.1 x.2.2.2.2.2.2.1 x.2.2.2.2.2.2.2.1 x.2.2.2.2.2.2.2.2.1 x.2.2.2.2.2.2.2.2.2.1 ∧ (x.1 = 0 ∧ ¬ (0 < cN ∧ gfr ≤ 5) ∨ x.1 = 1 ∧ (0 < cN ∧ gfr ≤ 5) ∧ (¬ gcl = 0 ∧ x.2.2.2.1 = 0 ∧ x.2.2.2.2.1 = (-1) ∨ gcl = 0 ∧ zFA cF cc cN gc gfr gof gfx stp mst prc al made amt op rlo rhi x.2.2.1 x.2.2.2.1 x.2.2.2.2.1 x.2.2.2.2.2.1 x.2.2.2.2.2.2.1 x.2.2.2.2.2.2.2.1 x.2.2.2.2.2.2.2.2.1 x.2.2.2.2.2.2.2.2.2.1)) := by
  have hN := T.2.1
  have hF := T.1
  have gf := zGfr T G
  unfold fn_X1_search at h
  by_cases c0 : cN = 0
  · rw [if_pos c0] at h
    rw [← Option.some.inj h]
    exact ⟨F, Or.inl ⟨rfl, fun q => by rw [c0] at q; exact absurd q.1 (by decide)⟩⟩
  · rw [if_neg c0] at h
    have cp : 0 < cN := by have := hN.2.1; clear h F T G; grind
    by_cases c5 : gfr ≤ 5
    · rw [if_pos c5] at h
      by_cases r : uRd = 0
      · rw [if_pos r, zHasC hN.2.1, zb_some] at h
        by_cases g0 : gcl = 0
        · rw [if_neg (by rw [zif1]; exact fun q => q ⟨cp, g0⟩)] at h
          obtain ⟨y, hy, h⟩ := zb_s h
          have fa := zSrch hN.2 hF.2 ⟨gf.1.1, c5⟩ hy
          rw [← Option.some.inj h]
          exact ⟨Or.inr (fun _ _ => Or.inr ⟨g0, fa⟩), Or.inr ⟨rfl, ⟨cp, c5⟩, Or.inr ⟨g0, fa⟩⟩⟩
        · rw [if_pos (by rw [zif1]; exact fun q => g0 q.2)] at h
          rw [← Option.some.inj h]
          exact ⟨Or.inr (fun _ _ => Or.inl ⟨g0, rfl, rfl⟩), Or.inr ⟨rfl, ⟨cp, c5⟩, Or.inl ⟨g0, rfl, rfl⟩⟩⟩
      · rw [if_neg r] at h
        have K := (F.resolve_left r) cp c5
        rw [← Option.some.inj h]
        exact ⟨F, Or.inr ⟨rfl, ⟨cp, c5⟩, K⟩⟩
    · rw [if_neg c5] at h
      rw [← Option.some.inj h]
      exact ⟨F, Or.inl ⟨rfl, fun q => c5 q.2⟩⟩
theorem zCanS {cF cc cN inp gc gfr gcl mHh : Int32} {nF nN stp mst prc al made amt op fx jn lets gof gfx gld hand mF mN mCst mNF mNN mS mM mC mW mO m1 m2 mX mG mH mFr : Nat → Int32} {mA mB : Nat → Int64} {x : Int32 × Int32 × Int32 × (Nat → Int32)} (T : zTN cF cc cN inp nF nN stp mst prc al made amt op fx jn lets mF mN mNF mNN mS mM mC mW mCst mO m1 m2 mX mG mA mB) (G : zGp cN gc gfr gcl gof gfx gld fx mG) (H : zHN cN cF gcl mHh gof gfx hand mH) (h : fn_X12_canSearch mHh mN mG mX mFr = some x) : (x.1 = 0 ∧ ¬ ((0 < cN ∧ gfr ≤ 5) ∧ gcl = 0) ∨ x.1 = 1 ∧ (0 < cN ∧ gfr ≤ 5) ∧ gcl = 0) ∧ x.2.2.1 = (-1) ∧ zFL cN x.2.1 gfx mG x.2.2.2 ∧ x.2.1 = gfr := by
  have hN := T.2.1
  have gf := zGfr T G
  unfold fn_X12_canSearch at h
  obtain ⟨f, hf, h⟩ := zb_s h
  have lf := zLaysFree T G hf
  have ef : f.1 = gfr := lf.1.trans gf.2
  rw [zn01.1, hN.1] at h
  by_cases c : cN ≤ 0
  · rw [if_pos c] at h
    rw [← Option.some.inj h]
    exact ⟨Or.inl ⟨rfl, fun q => absurd q.1.1 (Int32.not_lt.mpr c)⟩, rfl, lf, ef⟩
  · rw [if_neg c] at h
    have cp : 0 < cN := Int32.not_le.mp c
    by_cases d : mHh = 0
    · rw [if_pos d] at h
      rw [← Option.some.inj h]
      refine ⟨Or.inl ⟨rfl, fun q => ?_⟩, rfl, lf, ef⟩
      rcases H.1 cp with ⟨a1, _⟩ | ⟨_, a2⟩
      · rw [a1] at d; exact absurd d (by decide)
      · exact a2 q.2
    · rw [if_neg d] at h
      have g0 : gcl = 0 := by
        rcases H.1 cp with ⟨_, a2⟩ | ⟨a1, _⟩
        · exact a2
        · exact absurd a1 d
      rw [ef] at h
      by_cases e : 5 < gfr
      · rw [if_pos e] at h
        rw [← Option.some.inj h]
        exact ⟨Or.inl ⟨rfl, fun q => absurd q.1.2 (Int32.not_le.mpr e)⟩, rfl, by rw [← ef]; exact lf, rfl⟩
      · rw [if_neg e] at h
        rw [← Option.some.inj h]
        exact ⟨Or.inr ⟨rfl, ⟨cp, Int32.not_lt.mp e⟩, g0⟩, rfl, by rw [← ef]; exact lf, rfl⟩
set_option maxHeartbeats 4000000 in
theorem zeq_cheapest {cF cc cN inp gc gfr gcl mHh mFa mFw uRd uAn uMn uBs uBp uFa uRs : Int32} {nF nN stp mst prc al made amt op fx jn lets gof gfx gld rwd hand mF mN mCst mNF mNN mS mM mC mW mO m1 m2 mX mG mH mTr mFr uP uE uFp uFe uFm uCh oth : Nat → Int32} {rlo rhi mA mB mLe mGe mEr uRe : Nat → Int64} {mWb : Int64} {nQP nQE nQ3 nQ4 nQ5 : Nat} {p1 : Int32} {x : Int32 × Int32 × Int32 × Int32 × Int32 × Int32 × (Nat → Int32) × Nat × (Nat → Int32) × Nat × (Nat → Int32) × Nat × (Nat → Int32) × Nat × (Nat → Int32) × Nat × (Nat → Int32) × Int32 × Int32 × (Nat → Int64) × (Nat → Int32)} {y : Int32 × Int32 × Int32 × Int32 × Int32 × (Nat → Int32) × (Nat → Int32) × (Nat → Int64) × (Nat → Int64) × (Nat → Int64)} (T : zTN cF cc cN inp nF nN stp mst prc al made amt op fx jn lets mF mN mNF mNN mS mM mC mW mCst mO m1 m2 mX mG mA mB) (G : zGp cN gc gfr gcl gof gfx gld fx mG) (R : zRN cN (-1) 0 op made amt rwd rlo rhi) (H : zHN cN cF gcl mHh gof gfx hand mH) (F : zFC cF cc cN gc gfr gcl gof gfx stp mst prc al made amt op rlo rhi uRd uAn uMn uBs uBp uP nQP uE nQE) (h1 : fn_X11_cheapest p1 uRd uAn uMn uBs uBp cF cc cN gc gfr gcl al nQP uP nQE uE nQ4 uFe nQ3 uFp nQ5 uFm gfx uCh uFa uRs gof stp op made uRe amt rlo rhi mst prc oth = some x) (h2 : fn_X12_cheapest p1 mWb mHh mFa mFw mN mG mX mFr mF mH mTr mCst m1 m2 mC mO mLe mA mB mGe mS mEr mM mW = some y) : x.1 = y.1 := by
  have hN := T.2.1
  unfold fn_X11_cheapest at h1
  unfold fn_X12_cheapest at h2
  obtain ⟨a, ha, h1⟩ := zb_s h1
  obtain ⟨e, he, h2⟩ := zb_s h2
  obtain ⟨-, ra⟩ := zSea T G F ha
  obtain ⟨re, e2, e3, e4⟩ := zCanS T G H he
  -- neither there
  have no : (a.1 = 0 ∨ a.2.2.2.2.1 = (-1)) → x.1 = (-1) := by
    intro q
    by_cases z : a.1 = 0
    · rw [if_pos z] at h1
      rw [← Option.some.inj h1]
    · rw [if_neg z, if_pos (q.resolve_left z)] at h1
      rw [← Option.some.inj h1]
  rcases re with ⟨r1, r2⟩ | ⟨r1, r2, r3⟩
  · rw [if_pos r1] at h2
    rw [← Option.some.inj h2]
    apply no
    rcases ra with ⟨q, _⟩ | ⟨_, q2, q3⟩
    · exact Or.inl q
    · rcases q3 with ⟨_, _, w⟩ | ⟨w, _⟩
      · exact Or.inr w
      · exact absurd ⟨q2, w⟩ r2
  · rw [if_neg (by rw [r1]; decide)] at h2
    rcases ra with ⟨_, q⟩ | ⟨q1, _, q3⟩
    · exact absurd r2 q
    · rcases q3 with ⟨w, _⟩ | ⟨_, q, ok, pr, er, w1, w2, w3, w4, -, -⟩
      · exact absurd r3 w
      · obtain ⟨j, ej, h2⟩ := zj_g h2
        rw [e2] at ej
        have cl : 0 < cN ∧ gcl = 0 := ⟨r2.1, r3⟩
        have b14 : 0 ≤ e.2.1 ∧ e.2.1 ≤ 14 := by rw [e4]; exact (zGfr T G).1
        have w1' : q = zpw cF (e.2.1).toNatClampNeg := by rw [e4]; exact w1
        have go : j () = some y → (∃ c, fn_X12_cheapestChoice e.2.1 (-1) mWb mFa mFw mF mN mH mTr e.2.2.2 mG mCst m1 m2 mC mO mLe mA mB mGe mS mEr mM mW = some c ∧ (c.1 = (-1) ∧ y.1 = (-1) ∨ ¬ c.1 = (-1) ∧ ∃ t, fn_X12_triesChoice c.1 e.2.1 mN mH c.2.2.2.1 e.2.2.2 mF mG = some t ∧ (p1 = (-1) ∧ fn_X12_costTried mCst mN m1 t m2 mC = some y.1 ∨ ¬ p1 = (-1) ∧ y.1 = t p1.toNatClampNeg))) := by
          intro hj
          have hj := zj_s ej hj
          obtain ⟨c, hc, hj⟩ := zb_s hj
          refine ⟨c, hc, ?_⟩
          by_cases z : c.1 = (-1)
          · rw [if_pos z] at hj
            rw [← Option.some.inj hj]
            exact Or.inl ⟨z, rfl⟩
          · rw [if_neg z] at hj
            obtain ⟨t, ht, hj⟩ := zb_s hj
            refine Or.inr ⟨z, t, ht, ?_⟩
            by_cases v : p1 = (-1)
            · rw [if_pos v] at hj
              obtain ⟨k, hk, hj⟩ := zb_s hj
              rw [← Option.some.inj hj]
              exact Or.inl ⟨v, hk⟩
            · rw [if_neg v] at hj
              obtain ⟨-, hj⟩ := zg_s hj
              rw [← Option.some.inj hj]
              exact Or.inr ⟨v, rfl⟩
        have done : (p1 = (-1) ∨ (0 ≤ p1 ∧ p1 < cN)) → j () = some y → x.1 = y.1 := by
          intro hp hj
          obtain ⟨c, hc, hy⟩ := go hj
          have ec := zCheapC T G R H cl e3 b14 ⟨w1', w4.1, w4.2⟩ w2 hc
          rcases hy with ⟨y1, y2⟩ | ⟨y1, t, ht, hy⟩
          · rw [y2]
            exact no (Or.inr (ec.symm.trans y1))
          · have nb : ¬ a.2.2.2.2.1 = (-1) := fun z => y1 (ec.trans z)
            rw [if_neg (by rw [q1]; decide), if_neg nb] at h1
            rw [ec] at ht
            have bs := w2.2.2.1
            rcases bs with ⟨b1, _⟩ | ⟨b1, b2, b3, _⟩
            · exact absurd b1 nb
            · have bq : 0 ≤ a.2.2.2.2.1 ∧ a.2.2.2.2.1 ≤ 1023 := ⟨b1.1, by have := b1.2; have := w4.2; clear h1 h2 ej go no ht hc w2 T G R H F e3 ha he; (first | ((try clear hj); (try clear hk); (try clear done); grind) | grind)⟩
              rcases hy with ⟨v, hk⟩ | ⟨v, hk⟩
              · rw [if_pos v] at h1
                rw [← Option.some.inj h1]
                have := zTryCost T G H cl bq e3 (w2.1 _ b1.1 b1.2) ht hk b2
                rw [this]
                exact b3
              · rw [if_neg v] at h1
                have hi := hp.resolve_left v
                obtain ⟨row, hrow, h1⟩ := zb_s h1
                have C := zUnf T G H cl bq e3.1 e3.2 hrow ht
                rw [zHasN, zb_some, if_neg (by rw [zif1]; exact fun q => q hi), zFmtOf hN.2.2 C hi, zb_some] at h1
                rw [← Option.some.inj h1]
                exact hk.symm
        by_cases v : p1 = (-1)
        · rw [if_pos v] at h2
          exact done (Or.inl v) h2
        · rw [if_neg v, zIsNum (by rw [hN.1]; exact hN.2.1), zb_some, hN.1] at h2
          by_cases hi : 0 ≤ p1 ∧ p1 < cN
          · rw [if_neg (by rw [zif1]; exact fun q => q hi)] at h2
            exact done (Or.inr hi) h2
          · rw [if_pos (by rw [zif1]; exact hi)] at h2
            rw [← Option.some.inj h2]
            by_cases nb : a.2.2.2.2.1 = (-1)
            · exact no (Or.inr nb)
            · rw [if_neg (by rw [q1]; decide), if_neg nb, if_neg v] at h1
              obtain ⟨row, hrow, h1⟩ := zb_s h1
              rw [zHasN, zb_some, if_pos (by rw [zif1]; exact hi)] at h1
              rw [← Option.some.inj h1]
set_option maxHeartbeats 4000000 in
theorem zeq_passing {cF cc cN inp gc gfr gcl mHh mWn mFa mFw uRd uAn uMn uBs uBp uFa uRs : Int32} {nF nN stp mst prc al made amt op fx jn lets gof gfx gld rwd hand mF mN mCst mNF mNN mS mM mC mW mO m1 m2 mX mG mH mTr mFr uP uE uFp uFe uFm uCh : Nat → Int32} {rlo rhi mA mB mLe mGe mEr uRe : Nat → Int64} {mWb : Int64} {nQP nQE nQ3 nQ4 nQ5 : Nat} {x : Int32 × Int32 × Int32 × Int32 × Int32 × Int32 × (Nat → Int32) × Nat × (Nat → Int32) × Nat × (Nat → Int32) × Nat × (Nat → Int32) × Nat × (Nat → Int32) × Nat × (Nat → Int32) × Int32 × Int32 × (Nat → Int64)} {y : Int32 × Int32 × Int32 × Int32 × Int32 × (Nat → Int32) × (Nat → Int32) × (Nat → Int64) × (Nat → Int64) × (Nat → Int64)} (T : zTN cF cc cN inp nF nN stp mst prc al made amt op fx jn lets mF mN mNF mNN mS mM mC mW mCst mO m1 m2 mX mG mA mB) (G : zGp cN gc gfr gcl gof gfx gld fx mG) (R : zRN cN (-1) 0 op made amt rwd rlo rhi) (H : zHN cN cF gcl mHh gof gfx hand mH) (F : zFC cF cc cN gc gfr gcl gof gfx stp mst prc al made amt op rlo rhi uRd uAn uMn uBs uBp uP nQP uE nQE) (h1 : fn_X11_passing uRd uAn uMn uBs uBp cF cc cN gc gfr gcl al nQP uP nQE uE nQ4 uFe nQ3 uFp nQ5 uFm gfx uCh uFa uRs gof stp op made uRe amt rlo rhi mst prc = some x) (h2 : fn_X12_passing mWn mWb mHh mFa mFw mN mG mX mFr mF mH mTr mO m1 m2 mLe mA mB mGe mS mEr mM mW = some y) : x.1 = y.1 := by
  have hN := T.2.1
  have gf := zGfr T G
  unfold fn_X11_passing at h1
  unfold fn_X12_passing at h2
  obtain ⟨a, ha, h1⟩ := zb_s h1
  obtain ⟨f, hf, h2⟩ := zb_s h2
  have lf := zLaysFree T G hf
  have ef : f.1 = gfr := lf.1.trans gf.2
  obtain ⟨-, ra⟩ := zSea T G F ha
  rw [zn01.1, hN.1] at h2
  by_cases c0 : cN = 0
  · rw [if_pos c0] at h2
    rcases ra with ⟨q, _⟩ | ⟨_, q, _⟩
    · rw [if_pos q] at h1
      rw [← Option.some.inj h1, ← Option.some.inj h2]
    · rw [c0] at q; exact absurd q.1 (by decide)
  · rw [if_neg c0] at h2
    have cp : 0 < cN := by have := hN.2.1; clear h1 h2 ha hf T G R H F lf ra; grind
    by_cases c5 : gfr ≤ 5
    · rw [if_pos (by rw [ef]; exact c5)] at h2
      rcases ra with ⟨_, q⟩ | ⟨q1, _, q3⟩
      · exact absurd ⟨cp, c5⟩ q
      · rw [if_neg (by rw [q1]; decide)] at h1
        rw [← Option.some.inj h1]
        show a.2.2.2.1 = y.1
        rcases q3 with ⟨w, w2, _⟩ | ⟨g0, q, ok, pr, er, w1, w2, w3, w4, -, -⟩
        · rcases H.1 cp with ⟨_, a2⟩ | ⟨a1, _⟩
          · exact absurd a2 w
          · rw [if_pos a1] at h2
            rw [← Option.some.inj h2]
            exact w2
        · have hh : ¬ mHh = 0 := by
            rcases H.1 cp with ⟨a1, _⟩ | ⟨_, a2⟩
            · rw [a1]; decide
            · exact absurd g0 a2
          rw [if_neg hh] at h2
          obtain ⟨A, hA, h2⟩ := zb_s h2
          have cl : 0 < cN ∧ gcl = 0 := ⟨cp, g0⟩
          have eA : A = q := by
            rw [zAllC T.1.1 (by rw [ef]; exact gf.1) hA, ef]
            exact w1.symm
          rw [eA] at h2
          rw [w2.2.1]
          refine zl_ip (P := fun y : Int32 × Int32 × Int32 × Int32 × Int32 × (Nat → Int32) × (Nat → Int32) × (Nat → Int64) × (Nat → Int64) × (Nat → Int64) => zOc ok q.toNatClampNeg = y.1) (fun s => (0 ≤ s.2.1 ∧ s.2.1 ≤ q) ∧ s.1 = zOc ok s.2.1.toNatClampNeg) ?_ _ _ _ ?_ h2
          rotate_left
          · exact ⟨⟨Int32.le_refl 0, w4.1⟩, by show (0 : Int32) = zOc ok (0 : Int32).toNatClampNeg; rw [zn01.1]; rfl⟩
          intro s back o ⟨H1, H2⟩ hb ho
          obtain ⟨n, c, fa, fw, l1, g1, tr, em⟩ := s
          dsimp only at H1 H2 ho
          by_cases d : q ≤ c
          · rw [if_pos d] at ho
            rw [← Option.some.inj ho]
            show zOc ok q.toNatClampNeg = n
            rw [H2, Int32.le_antisymm H1.2 d]
          · rw [if_neg d] at ho
            have cq : c < q := Int32.not_le.mp d
            have cb : (0 ≤ c ∧ c ≤ 1023) ∧ c ≤ 1200 ∧ 0 ≤ c + 1 ∧ c + 1 ≤ q := by have := H1.1; have := w4.2; clear H2 hb ho w2 T G R H F h1 ha hf hA lf; (first | ((try clear h2); grind) | grind)
            obtain ⟨t, ht, ho⟩ := zb_s ho
            obtain ⟨v, hv, ho⟩ := zb_s ho
            obtain ⟨p1, -, -⟩ := zTryPass T G R H cl cb.1 lf (w2.1 c H1.1 cq) ht hv
            by_cases e : v.1 = 0
            · rw [if_pos e] at ho
              refine hb _ _ ?_ ho
              refine ⟨⟨cb.2.2.1, cb.2.2.2⟩, ?_⟩
              show n + 0 = zOc ok (c + 1).toNatClampNeg
              rw [Int32.add_zero, H2]
              exact (zct_f (b := fun n => decide (¬ ok n = 0)) H1.1 cb.2.1 (fun z => (of_decide_eq_true z) (p1.symm.trans e))).symm
            · rw [if_neg e] at ho
              refine hb _ _ ?_ ho
              refine ⟨⟨cb.2.2.1, cb.2.2.2⟩, ?_⟩
              show n + 1 = zOc ok (c + 1).toNatClampNeg
              rw [H2]
              exact (zct_t (b := fun n => decide (¬ ok n = 0)) H1.1 cb.2.1 (decide_eq_true (fun z => e (p1.trans z)))).symm
    · rw [if_neg (by rw [ef]; exact c5)] at h2
      rcases ra with ⟨q, _⟩ | ⟨_, q, _⟩
      · rw [if_pos q] at h1
        rw [← Option.some.inj h1, ← Option.some.inj h2]
      · exact absurd q.2 c5
/-! the least ERROR within a COST; what is kept of the search stays so -/
theorem z3264 {x : Int64} (h : 0 ≤ x.toInt ∧ x.toInt ≤ 1000000000) : x.toInt32.toInt64 = x := by
  apply Int64.toInt_inj.mp
  rw [Int32.toInt_toInt64, Int64.toInt_toInt32, Int.bmod_def]
  split <;> omega
theorem zErAt {p s a q : Int32} {n : Nat} {E : Nat → Int32} (hp : 0 ≤ p ∧ p < q) (hq : q ≤ 1024) (ha : a ≤ 14) (hs : 0 ≤ s ∧ s < a) (hn : q * a ≤ Int32.ofNat n) : ∀ x : Int32, fn_X1_errorAt p s a n E = some x → x = E (p * a + s).toNatClampNeg := by
  intro x h
  obtain ⟨z1, z2, -⟩ := zidx hp.1 hp.2 hq ha hs.1 hs.2
  unfold fn_X1_errorAt at h
  rw [if_neg (show ¬ p * a + s < 0 from Int32.not_lt.mpr z1), if_neg (show ¬ Int32.ofNat n ≤ p * a + s from Int32.not_le.mpr (Int32.lt_of_lt_of_le z2 hn))] at h
  obtain ⟨-, h⟩ := zg_s h
  exact (Option.some.inj h).symm
set_option maxHeartbeats 8000000 in
theorem zeq_least {cF cc cN inp gc gfr gcl mHh mFn mWn mFa mFw uRd uAn uMn uBs uBp uFa uRs : Int32} {nF nN stp mst prc al made amt op fx jn lets gof gfx gld rwd hand mF mN mCst mNF mNN mS mM mC mW mO m1 m2 mX mG mH mTr mFr uP uE uFp uFe uFm uCh : Nat → Int32} {rlo rhi mA mB mLe mGe mEr uRe : Nat → Int64} {mWb : Int64} {nQP nQE nQ3 nQ4 nQ5 : Nat} {p1 p2 : Int32} {x : Int64 × Int32 × Int32 × Int32 × Int32 × Int32 × (Nat → Int32) × Nat × (Nat → Int32) × Nat × (Nat → Int32) × Nat × (Nat → Int32) × Nat × (Nat → Int32) × Nat × (Nat → Int32) × Int32 × Int32 × (Nat → Int64)} {y : Int64 × Int32 × Int32 × Int32 × Int32 × (Nat → Int32) × (Nat → Int32) × (Nat → Int64) × (Nat → Int64) × (Nat → Int64)} (T : zTN cF cc cN inp nF nN stp mst prc al made amt op fx jn lets mF mN mNF mNN mS mM mC mW mCst mO m1 m2 mX mG mA mB) (G : zGp cN gc gfr gcl gof gfx gld fx mG) (R : zRN cN (-1) 0 op made amt rwd rlo rhi) (H : zHN cN cF gcl mHh gof gfx hand mH) (F : zFC cF cc cN gc gfr gcl gof gfx stp mst prc al made amt op rlo rhi uRd uAn uMn uBs uBp uP nQP uE nQE) (h1 : fn_X11_least p1 p2 cF cc cN al uRd uAn uMn uBs uBp gc gfr gcl nQP uP nQE uE nQ4 uFe nQ3 uFp nQ5 uFm gfx uCh uFa uRs gof stp op made uRe amt rlo rhi mst prc = some x) (h2 : fn_X12_least p1 p2 mFn mWn mWb mHh mFa mFw mN mW mG mX mFr mF mH mTr mCst m1 m2 mC mO mLe mA mB mGe mS mEr mM = some y) : x.1 = y.1 := by
  have hN := T.2.1
  have gf := zGfr T G
  unfold fn_X11_least at h1
  unfold fn_X12_least at h2
  rw [zIsAnsJ hN.2.2, zb_some] at h1
  obtain ⟨i, hi, h2⟩ := zb_s h2
  rw [zIsAnsM T hi] at h2
  by_cases ca : (0 ≤ p1 ∧ p1 < cN) ∧ ¬ al p1.toNatClampNeg = (-1)
  · rw [if_neg (by rw [zif1]; exact fun q => q ca)] at h1 h2
    obtain ⟨a, ha, h1⟩ := zb_s h1
    obtain ⟨e, he, h2⟩ := zb_s h2
    obtain ⟨-, ra⟩ := zSea T G F ha
    obtain ⟨re, e2, e3, e4⟩ := zCanS T G H he
    rcases ra with ⟨q, q2⟩ | ⟨q1, q2, q3⟩
    · rw [if_pos q] at h1
      rcases re with ⟨r1, _⟩ | ⟨_, r2, _⟩
      · rw [if_pos r1] at h2
        rw [← Option.some.inj h1, ← Option.some.inj h2]
      · exact absurd r2 q2
    · rw [if_neg (by rw [q1]; decide)] at h1
      obtain ⟨lw, hl, h1⟩ := zb_s h1
      rw [← Option.some.inj h1]
      show lw = y.1
      clear h1
      unfold fn_X1_leastWithin at hl
      obtain ⟨sl, hs, hl⟩ := zb_s hl
      rcases q3 with ⟨w, w2, _⟩ | ⟨g0, q, ok, pr, er, w1, w2, w3, w4, w5, w6⟩
      · rcases re with ⟨r1, _⟩ | ⟨_, _, r3⟩
        · rw [if_pos r1] at h2
          rw [← Option.some.inj h2]
          rw [w2] at hl
          obtain ⟨B, eB, hl⟩ := zl_g hl
          have hl := zl_s eB hl
          try dsimp only at hl
          rw [if_pos (show (0 : Int32) ≤ 0 by decide)] at hl
          exact (Option.some.inj hl).symm
        · exact absurd r3 w
      · rcases re with ⟨_, r2⟩ | ⟨r1, _, _⟩
        · exact absurd ⟨q2, g0⟩ r2
        · rw [if_neg (by rw [r1]; decide)] at h2
          obtain ⟨A, hA, h2⟩ := zb_s h2
          have cl : 0 < cN ∧ gcl = 0 := ⟨q2.1, g0⟩
          have eA : A = q := by
            rw [zAllC T.1.1 (by rw [e4]; exact gf.1) hA, e4]
            exact w1.symm
          rw [eA, e2] at h2
          have es : sl = zAn al p1.toNatClampNeg := zCountA ⟨ca.1.1, Int32.le_of_lt ca.1.2, hN.2.2⟩ hs
          have sb : 0 ≤ sl ∧ sl < a.2.2.1 := by
            rw [es, w3]
            exact ⟨(zct_b32 (b := fun k => decide (¬ al k = (-1))) ca.1.1 (Int32.le_trans (Int32.le_of_lt ca.1.2) hN.2.2)).1, zct_lt (b := fun k => decide (¬ al k = (-1))) ca.1.1 ca.1.2 hN.2.2 (decide_eq_true ca.2)⟩
          have a14 : a.2.2.1 ≤ 14 := by
            rw [w3]
            exact Int32.le_trans (zct_b32 (b := fun k => decide (¬ al k = (-1))) hN.2.1 hN.2.2).2 hN.2.2
          obtain ⟨K1, K2, -, K4⟩ := w2
          have key : y.1 = lw := by
            refine zl_ip4 (P := fun (o1 : Int64 × Int32 × Int32 × Int32 × Int32 × (Nat → Int32) × (Nat → Int32) × (Nat → Int64) × (Nat → Int64) × (Nat → Int64)) (o2 : Int64) => o1.1 = o2) (fun s t => (0 ≤ s.2.1 ∧ s.2.1 ≤ q) ∧ t.1 = s.1 ∧ t.2 = zOc ok s.2.1.toNatClampNeg) ?_ _ _ _ _ _ ?_ h2 ⟨_, hl⟩
            · intro s t k1 o1 o2 ⟨R1, R2, R3⟩ hb ho1 ho2
              obtain ⟨be, c, fa, fw, l1, g1, tr, em⟩ := s
              obtain ⟨le, p⟩ := t
              dsimp only at R1 R2 R3 ho1
              subst R2
              by_cases d : q ≤ c
              · rw [if_pos d] at ho1
                obtain ⟨m, ho2⟩ := zl_un ho2
                try dsimp only at ho2
                have ep : p = a.2.2.2.1 := by rw [R3, Int32.le_antisymm R1.2 d]; exact K2.symm
                rw [if_pos (show a.2.2.2.1 ≤ p by rw [ep]; exact Int32.le_refl _)] at ho2
                rw [← Option.some.inj ho1, ← Option.some.inj ho2]
              · rw [if_neg d] at ho1
                have cq : c < q := Int32.not_le.mp d
                have cb : (0 ≤ c ∧ c ≤ 1023) ∧ c ≤ 1200 ∧ (0 ≤ c + 1 ∧ c + 1 ≤ q) ∧ c ≤ 1024 := zN1k R1.1 cq w4.2
                obtain ⟨t, ht, ho1⟩ := zb_s ho1
                obtain ⟨w, hw, ho1⟩ := zb_s ho1
                have ty := K1 c R1.1 cq
                by_cases z : ok c.toNatClampNeg = 0
                · have nx : zOc ok c.toNatClampNeg = zOc ok (c + 1).toNatClampNeg := (zct_f (b := fun n => decide (¬ ok n = 0)) R1.1 cb.2.1 (fun v => (of_decide_eq_true v) z)).symm
                  rw [nx] at R3
                  by_cases f : p2 < w
                  · rw [if_pos f] at ho1
                    refine hb _ _ _ _ ?_ ho1 ho2
                    exact ⟨cb.2.2.1, rfl, R3⟩
                  · rw [if_neg f] at ho1
                    obtain ⟨v, hv, ho1⟩ := zb_s ho1
                    obtain ⟨p3, -, -⟩ := zTryPass T G R H cl cb.1 e3 ty ht hv
                    rw [if_pos (show v.1 = 0 from p3.trans z)] at ho1
                    refine hb _ _ _ _ ?_ ho1 ho2
                    exact ⟨cb.2.2.1, rfl, R3⟩
                · have ec := zTryCost T G H cl cb.1 e3 ty ht hw z
                  have nx : zOc ok c.toNatClampNeg + 1 = zOc ok (c + 1).toNatClampNeg := (zct_t (b := fun n => decide (¬ ok n = 0)) R1.1 cb.2.1 (decide_eq_true z)).symm
                  obtain ⟨g1, g2⟩ := K4 c R1.1 cq z
                  have pq : zOc ok c.toNatClampNeg < a.2.2.2.1 := by
                    rw [K2]
                    exact zct_lI (b := fun n => decide (¬ ok n = 0)) R1.1 cq w4.2 (decide_eq_true z)
                  have pb : 0 ≤ zOc ok c.toNatClampNeg ∧ zOc ok c.toNatClampNeg ≤ c := zct_bI (b := fun n => decide (¬ ok n = 0)) R1.1 cb.2.2.2
                  obtain ⟨m, ho2⟩ := zl_un ho2
                  try dsimp only at ho2
                  rw [if_neg (show ¬ a.2.2.2.1 ≤ p by rw [R3]; exact Int32.not_le.mpr pq)] at ho2
                  obtain ⟨-, ho2⟩ := zg_s ho2
                  rw [R3, nx, g1, ← ec] at ho2
                  by_cases f : p2 < w
                  · rw [if_pos f] at ho1 ho2
                    refine hb _ _ _ _ ?_ ho1 ⟨_, ho2⟩
                    exact ⟨cb.2.2.1, rfl, rfl⟩
                  · rw [if_neg f] at ho1 ho2
                    obtain ⟨v, hv, ho1⟩ := zb_s ho1
                    obtain ⟨p3, p4, p5⟩ := zTryPass T G R H cl cb.1 e3 ty ht hv
                    have ok1 : ok c.toNatClampNeg = 1 := p4.resolve_left z
                    obtain ⟨v1, v2, v3⟩ := p5 ok1 p1 ca.1.1 ca.1.2
                    rw [if_neg (show ¬ v.1 = 0 from fun u => z (p3.symm.trans u)), v1] at ho1
                    have ea : ∀ u : Int32, fn_X1_errorAt (zOc ok c.toNatClampNeg) sl a.2.2.1 a.2.2.2.2.2.2.2.2.2.1 a.2.2.2.2.2.2.2.2.1 = some u → u.toInt64 = er c.toNatClampNeg p1.toNatClampNeg := by
                      intro u hu
                      have := zErAt ⟨pb.1, Int32.lt_of_le_of_lt pb.2 cq⟩ w4.2 a14 sb w6 u hu
                      rw [this, es, g2 p1 ca.1.1 ca.1.2 ca.2]
                      exact z3264 ⟨v2, v3⟩
                    by_cases n : lg_cmp le (-1000000000000000) = 0
                    · rw [if_pos n] at ho1 ho2
                      obtain ⟨-, ho1⟩ := zg_s ho1
                      obtain ⟨u, hu, ho2⟩ := zb_s ho2
                      rw [ea u hu] at ho2
                      refine hb _ _ _ _ ?_ ho1 ⟨_, ho2⟩
                      exact ⟨cb.2.2.1, rfl, rfl⟩
                    · rw [if_neg n] at ho1 ho2
                      obtain ⟨-, ho1⟩ := zg_s ho1
                      rw [zLes, zb_some] at ho1
                      obtain ⟨u, hu, ho2⟩ := zb_s ho2
                      rw [ea u hu] at ho2
                      unfold zLs at ho1
                      by_cases lt : er c.toNatClampNeg p1.toNatClampNeg < le
                      · rw [if_pos lt] at ho1
                        rw [if_neg (show ¬ 0 ≤ lg_cmp (er c.toNatClampNeg p1.toNatClampNeg) le from fun k => absurd lt (Int64.not_lt.mpr ((lg_cmp_ge _ _).mp k)))] at ho2
                        obtain ⟨u2, hu2, ho2⟩ := zb_s ho2
                        rw [ea u2 hu2] at ho2
                        refine hb _ _ _ _ ?_ ho1 ⟨_, ho2⟩
                        exact ⟨cb.2.2.1, rfl, rfl⟩
                      · rw [if_neg lt] at ho1
                        rw [if_pos ((lg_cmp_ge _ _).mpr (Int64.not_lt.mp lt))] at ho2
                        refine hb _ _ _ _ ?_ ho1 ⟨_, ho2⟩
                        exact ⟨cb.2.2.1, rfl, rfl⟩
            · refine ⟨⟨Int32.le_refl 0, w4.1⟩, rfl, ?_⟩
              show (0 : Int32) = zOc ok (0 : Int32).toNatClampNeg
              rw [zn01.1]
              rfl
          exact key.symm
  · rw [if_pos (by rw [zif1]; exact ca)] at h1 h2
    rw [← Option.some.inj h1, ← Option.some.inj h2]
/-! what is kept, behind each call that may search -/
theorem zfc_cheapest {cF cc cN inp gc gfr gcl uRd uAn uMn uBs uBp uFa uRs : Int32} {nF nN stp mst prc al made amt op fx jn lets gof gfx gld mF mN mCst mNF mNN mS mM mC mW mO m1 m2 mX mG uP uE uFp uFe uFm uCh oth : Nat → Int32} {rlo rhi mA mB uRe : Nat → Int64} {nQP nQE nQ3 nQ4 nQ5 : Nat} {p1 : Int32} {x : Int32 × Int32 × Int32 × Int32 × Int32 × Int32 × (Nat → Int32) × Nat × (Nat → Int32) × Nat × (Nat → Int32) × Nat × (Nat → Int32) × Nat × (Nat → Int32) × Nat × (Nat → Int32) × Int32 × Int32 × (Nat → Int64) × (Nat → Int32)} (T : zTN cF cc cN inp nF nN stp mst prc al made amt op fx jn lets mF mN mNF mNN mS mM mC mW mCst mO m1 m2 mX mG mA mB) (G : zGp cN gc gfr gcl gof gfx gld fx mG) (F : zFC cF cc cN gc gfr gcl gof gfx stp mst prc al made amt op rlo rhi uRd uAn uMn uBs uBp uP nQP uE nQE) (h1 : fn_X11_cheapest p1 uRd uAn uMn uBs uBp cF cc cN gc gfr gcl al nQP uP nQE uE nQ4 uFe nQ3 uFp nQ5 uFm gfx uCh uFa uRs gof stp op made uRe amt rlo rhi mst prc oth = some x) : zFC cF cc cN gc gfr gcl gof gfx stp mst prc al made amt op rlo rhi x.2.1 x.2.2.1 x.2.2.2.1 x.2.2.2.2.1 x.2.2.2.2.2.1 x.2.2.2.2.2.2.1 x.2.2.2.2.2.2.2.1 x.2.2.2.2.2.2.2.2.1 x.2.2.2.2.2.2.2.2.2.1 := by
  unfold fn_X11_cheapest at h1
  obtain ⟨a, ha, h1⟩ := zb_s h1
  obtain ⟨f, -⟩ := zSea T G F ha
  by_cases z : a.1 = 0
  · rw [if_pos z] at h1; rw [← Option.some.inj h1]; exact f
  · rw [if_neg z] at h1
    by_cases w : a.2.2.2.2.1 = (-1)
    · rw [if_pos w] at h1; rw [← Option.some.inj h1]; exact f
    · rw [if_neg w] at h1
      by_cases v : p1 = (-1)
      · rw [if_pos v] at h1; rw [← Option.some.inj h1]; exact f
      · rw [if_neg v] at h1
        obtain ⟨r, -, h1⟩ := zb_s h1
        obtain ⟨n, -, h1⟩ := zb_s h1
        by_cases u : n = 0
        · rw [if_pos u] at h1; rw [← Option.some.inj h1]; exact f
        · rw [if_neg u] at h1
          obtain ⟨k, -, h1⟩ := zb_s h1
          rw [← Option.some.inj h1]; exact f
theorem zfc_passing {cF cc cN inp gc gfr gcl uRd uAn uMn uBs uBp uFa uRs : Int32} {nF nN stp mst prc al made amt op fx jn lets gof gfx gld mF mN mCst mNF mNN mS mM mC mW mO m1 m2 mX mG uP uE uFp uFe uFm uCh : Nat → Int32} {rlo rhi mA mB uRe : Nat → Int64} {nQP nQE nQ3 nQ4 nQ5 : Nat} {x : Int32 × Int32 × Int32 × Int32 × Int32 × Int32 × (Nat → Int32) × Nat × (Nat → Int32) × Nat × (Nat → Int32) × Nat × (Nat → Int32) × Nat × (Nat → Int32) × Nat × (Nat → Int32) × Int32 × Int32 × (Nat → Int64)} (T : zTN cF cc cN inp nF nN stp mst prc al made amt op fx jn lets mF mN mNF mNN mS mM mC mW mCst mO m1 m2 mX mG mA mB) (G : zGp cN gc gfr gcl gof gfx gld fx mG) (F : zFC cF cc cN gc gfr gcl gof gfx stp mst prc al made amt op rlo rhi uRd uAn uMn uBs uBp uP nQP uE nQE) (h1 : fn_X11_passing uRd uAn uMn uBs uBp cF cc cN gc gfr gcl al nQP uP nQE uE nQ4 uFe nQ3 uFp nQ5 uFm gfx uCh uFa uRs gof stp op made uRe amt rlo rhi mst prc = some x) : zFC cF cc cN gc gfr gcl gof gfx stp mst prc al made amt op rlo rhi x.2.1 x.2.2.1 x.2.2.2.1 x.2.2.2.2.1 x.2.2.2.2.2.1 x.2.2.2.2.2.2.1 x.2.2.2.2.2.2.2.1 x.2.2.2.2.2.2.2.2.1 x.2.2.2.2.2.2.2.2.2.1 := by
  unfold fn_X11_passing at h1
  obtain ⟨a, ha, h1⟩ := zb_s h1
  obtain ⟨f, -⟩ := zSea T G F ha
  by_cases z : a.1 = 0
  · rw [if_pos z] at h1; rw [← Option.some.inj h1]; exact f
  · rw [if_neg z] at h1; rw [← Option.some.inj h1]; exact f
theorem zfc_least {cF cc cN inp gc gfr gcl uRd uAn uMn uBs uBp uFa uRs : Int32} {nF nN stp mst prc al made amt op fx jn lets gof gfx gld mF mN mCst mNF mNN mS mM mC mW mO m1 m2 mX mG uP uE uFp uFe uFm uCh : Nat → Int32} {rlo rhi mA mB uRe : Nat → Int64} {nQP nQE nQ3 nQ4 nQ5 : Nat} {p1 p2 : Int32} {x : Int64 × Int32 × Int32 × Int32 × Int32 × Int32 × (Nat → Int32) × Nat × (Nat → Int32) × Nat × (Nat → Int32) × Nat × (Nat → Int32) × Nat × (Nat → Int32) × Nat × (Nat → Int32) × Int32 × Int32 × (Nat → Int64)} (T : zTN cF cc cN inp nF nN stp mst prc al made amt op fx jn lets mF mN mNF mNN mS mM mC mW mCst mO m1 m2 mX mG mA mB) (G : zGp cN gc gfr gcl gof gfx gld fx mG) (F : zFC cF cc cN gc gfr gcl gof gfx stp mst prc al made amt op rlo rhi uRd uAn uMn uBs uBp uP nQP uE nQE) (h1 : fn_X11_least p1 p2 cF cc cN al uRd uAn uMn uBs uBp gc gfr gcl nQP uP nQE uE nQ4 uFe nQ3 uFp nQ5 uFm gfx uCh uFa uRs gof stp op made uRe amt rlo rhi mst prc = some x) : zFC cF cc cN gc gfr gcl gof gfx stp mst prc al made amt op rlo rhi x.2.1 x.2.2.1 x.2.2.2.1 x.2.2.2.2.1 x.2.2.2.2.2.1 x.2.2.2.2.2.2.1 x.2.2.2.2.2.2.2.1 x.2.2.2.2.2.2.2.2.1 x.2.2.2.2.2.2.2.2.2.1 := by
  unfold fn_X11_least at h1
  obtain ⟨i, -, h1⟩ := zb_s h1
  by_cases c : i = 0
  · rw [if_pos c] at h1; rw [← Option.some.inj h1]; exact F
  · rw [if_neg c] at h1
    obtain ⟨a, ha, h1⟩ := zb_s h1
    obtain ⟨f, -⟩ := zSea T G F ha
    by_cases z : a.1 = 0
    · rw [if_pos z] at h1; rw [← Option.some.inj h1]; exact f
    · rw [if_neg z] at h1
      obtain ⟨l, -, h1⟩ := zb_s h1
      rw [← Option.some.inj h1]; exact f
set_option maxHeartbeats 4000000 in
theorem zfc_front {cF cc cN inp gc gfr gcl uRd uAn uMn uBs uBp uFo uFz uFa uRs : Int32} {nF nN stp mst prc al made amt op fx jn lets gof gfx gld mF mN mCst mNF mNN mS mM mC mW mO m1 m2 mX mG uP uE uFp uFe uFm uCh : Nat → Int32} {rlo rhi mA mB uRe : Nat → Int64} {nQP nQE nQ3 nQ4 nQ5 : Nat} {p1 p2 p3 : Int32} {x : Int64 × Int32 × Int32 × Int32 × Int32 × Int32 × Int32 × Int32 × (Nat → Int32) × Nat × (Nat → Int32) × Nat × (Nat → Int32) × Nat × (Nat → Int32) × Nat × (Nat → Int32) × Nat × (Nat → Int32) × Int32 × Int32 × (Nat → Int64)} (T : zTN cF cc cN inp nF nN stp mst prc al made amt op fx jn lets mF mN mNF mNN mS mM mC mW mCst mO m1 m2 mX mG mA mB) (G : zGp cN gc gfr gcl gof gfx gld fx mG) (F : zFC cF cc cN gc gfr gcl gof gfx stp mst prc al made amt op rlo rhi uRd uAn uMn uBs uBp uP nQP uE nQE) (h1 : fn_X11_front p1 p2 p3 cF cc cN al uRd uAn uMn uBs uBp uFo uFz gc gfr gcl nQP uP nQE uE nQ4 uFe nQ3 uFp nQ5 uFm gfx uCh uFa uRs gof stp op made uRe amt rlo rhi mst prc = some x) : zFC cF cc cN gc gfr gcl gof gfx stp mst prc al made amt op rlo rhi x.2.2.1 x.2.2.2.1 x.2.2.2.2.1 x.2.2.2.2.2.1 x.2.2.2.2.2.2.1 x.2.2.2.2.2.2.2.2.1 x.2.2.2.2.2.2.2.2.2.1 x.2.2.2.2.2.2.2.2.2.2.1 x.2.2.2.2.2.2.2.2.2.2.2.1 := by
  unfold fn_X11_front at h1
  obtain ⟨i, -, h1⟩ := zb_s h1
  by_cases c : i = 0
  · rw [if_pos c] at h1; rw [← Option.some.inj h1]; exact F
  · rw [if_neg c] at h1
    obtain ⟨a, ha, h1⟩ := zb_s h1
    obtain ⟨f, -⟩ := zSea T G F ha
    by_cases z : a.1 = 0
    · rw [if_pos z] at h1; rw [← Option.some.inj h1]; exact f
    · rw [if_neg z] at h1
      obtain ⟨d, -, h1⟩ := zb_s h1
      by_cases c1 : p2 = (-1)
      · rw [if_pos c1] at h1
        by_cases c2 : p3 = 0
        · rw [if_pos c2] at h1; rw [← Option.some.inj h1]; exact f
        · rw [if_neg c2] at h1; rw [← Option.some.inj h1]; exact f
      · rw [if_neg c1] at h1
        by_cases c2 : p2 < 0
        · rw [if_pos c2] at h1; rw [← Option.some.inj h1]; exact f
        · rw [if_neg c2] at h1
          by_cases c3 : p2 < d.1
          · rw [if_pos c3] at h1
            by_cases c4 : p3 = 0
            · rw [if_pos c4] at h1
              obtain ⟨-, h1⟩ := zg_s h1
              rw [← Option.some.inj h1]; exact f
            · rw [if_neg c4] at h1
              by_cases c5 : p3 = 1
              · rw [if_pos c5] at h1
                obtain ⟨-, h1⟩ := zg_s h1
                rw [← Option.some.inj h1]; exact f
              · rw [if_neg c5] at h1
                by_cases c6 : p3 = 2
                · rw [if_pos c6] at h1
                  obtain ⟨-, h1⟩ := zg_s h1
                  rw [← Option.some.inj h1]; exact f
                · rw [if_neg c6] at h1; rw [← Option.some.inj h1]; exact f
          · rw [if_neg c3] at h1; rw [← Option.some.inj h1]; exact f
/-! SINGLE changes -/
noncomputable def zBG (cN gc cF : Int32) (gfx mG : Nat → Int32) (bg bf sg sf : Int32) : Prop := (bg = (-1) ∧ bf = (-1) ∧ sg = (-1) ∧ sf = (-1)) ∨ ((0 ≤ bg ∧ bg < gc) ∧ gfx bg.toNatClampNeg = (-1) ∧ (0 ≤ sg ∧ sg < cN) ∧ mG sg.toNatClampNeg = sg ∧ zRk mG sg.toNatClampNeg = bg ∧ sf = bf ∧ 0 ≤ bf ∧ bf < cF)
noncomputable def zSgl (cN gc cF : Int32) (gfx mG : Nat → Int32) (x : Int32 × Int32 × Int32 × Int32 × (Nat → Int32) × Int32 × Int32 × (Nat → Int64)) (y : Int32 × Int32 × Int32 × Int32 × Int32 × Int32 × Int32 × Int32 × (Nat → Int32) × (Nat → Int32) × (Nat → Int64) × (Nat → Int64) × (Nat → Int64)) : Prop := x.1 = y.2.2.2.2.1 ∧ x.2.1 = y.2.2.2.2.2.1 ∧ zBG cN gc cF gfx mG x.2.2.1 x.2.2.2.1 y.2.2.2.2.2.2.1 y.2.2.2.2.2.2.2.1
set_option maxHeartbeats 8000000 in
theorem zLook {cF cc cN inp gc gfr gcl mHh mFa mFw vFa vRs : Int32} {nF nN stp mst prc al made amt op fx jn lets gof gfx gld rwd hand mF mN mCst mNF mNN mS mM mC mW mO m1 m2 mX mG mH mTr mFr vNr : Nat → Int32} {rlo rhi mA mB mLe mGe mEr vRe : Nat → Int64} {mWb : Int64} {x : Int32 × Int32 × Int32 × Int32 × (Nat → Int32) × Int32 × Int32 × (Nat → Int64)} {y : Int32 × Int32 × Int32 × Int32 × Int32 × Int32 × Int32 × Int32 × (Nat → Int32) × (Nat → Int32) × (Nat → Int64) × (Nat → Int64) × (Nat → Int64)} (T : zTN cF cc cN inp nF nN stp mst prc al made amt op fx jn lets mF mN mNF mNN mS mM mC mW mCst mO m1 m2 mX mG mA mB) (G : zGp cN gc gfr gcl gof gfx gld fx mG) (R : zRN cN (-1) 0 op made amt rwd rlo rhi) (H : zHN cN cF gcl mHh gof gfx hand mH) (cl : 0 < cN ∧ gcl = 0) (h1 : fn_X3_lookAround hand vNr cF cc cN made gc gof prc gfx vFa vRs stp op vRe amt rlo rhi mst al = some x) (h2 : fn_X12_laysSingle mWb mFa mFw mN mG mX mFr mH mTr mCst m1 m2 mC mF mO mLe mA mB mGe mS mEr mM mW = some y) : zSgl cN gc cF gfx mG x y := by
  have hN := T.2.1
  have gf := zGfr T G
  obtain ⟨C, -⟩ := H.2.2 cl.1 cl.2
  have cF0 : 0 < cF := T.2.2.2.2.1 cl.1
  have cF4 := T.1.2.2
  unfold fn_X3_lookAround at h1
  unfold fn_X12_laysSingle at h2
  obtain ⟨nr, hnr, h1⟩ := zb_s h1
  obtain ⟨own, hown, h1⟩ := zb_s h1
  obtain ⟨fr, hfr, h2⟩ := zb_s h2
  obtain ⟨th, hth, h2⟩ := zb_s h2
  obtain ⟨ow2, how2, h2⟩ := zb_s h2
  have lf := zLaysFree T G hfr
  have eo : own = ow2 := zPriceEq T (zCh_c C (zTrH hN hth)) hown how2
  subst eo
  have cn := zCopyC hnr
  rw [zn01.1, T.1.1] at h2
  clear hnr hth hown how2
  have gb := zRk_b (G := mG) (p := cN) hN.2.1 hN.2.2
  rw [← G.1.1] at gb
  have gc14 : gc ≤ 14 := Int32.le_trans gb.2 hN.2.2
  have ef : zFg gfx gc.toNatClampNeg = fr.1 := by rw [lf.1, gf.2]; exact G.2.symm
  refine zl_ip4 (P := fun (o1 : Int32 × Int32 × Int32 × Int32 × (Nat → Int32) × Int32 × Int32 × (Nat → Int64)) (o2 : Int32 × Int32 × Int32 × Int32 × Int32 × Int32 × Int32 × Int32 × (Nat → Int32) × (Nat → Int32) × (Nat → Int64) × (Nat → Int64) × (Nat → Int64)) => zSgl cN gc cF gfx mG o1 o2) (fun s t => (0 ≤ s.2.1 ∧ s.2.1 ≤ gc) ∧ s.1 = t.1 ∧ t.2.1 = zFg gfx s.2.1.toNatClampNeg ∧ s.2.2.1 = t.2.2.2.2.1 ∧ s.2.2.2.1 = t.2.2.2.2.2.1 ∧ zBG cN gc cF gfx mG s.2.2.2.2.1 s.2.2.2.2.2.1 t.2.2.2.2.2.2.1 t.2.2.2.2.2.2.2.1 ∧ (∀ i : Int32, 0 ≤ i → i < 14 → s.2.2.2.2.2.2.2.2.1 i.toNatClampNeg = hand i.toNatClampNeg)) ?_ _ _ _ _ _ ?_ h1 ⟨_, h2⟩
  · intro s t k1 o1 o2 ⟨R1, R2, R3, R4, R5, R6, R7⟩ hb ho1 ho2
    obtain ⟨be, g, pa, ce, bg, bf, fa, rs, nr2, re⟩ := s
    obtain ⟨be2, k, fa2, fw2, pa2, ce2, sg, sf, l2, g2, tr2, em2⟩ := t
    dsimp only at R1 R2 R3 R4 R5 R6 R7 ho1
    subst R2 R4 R5
    by_cases d : gc ≤ g
    · rw [if_pos d] at ho1
      obtain ⟨m, ho2⟩ := zl_un ho2
      try dsimp only at ho2
      have eg := Int32.le_antisymm R1.2 d
      rw [if_pos (show fr.1 ≤ k by rw [R3, eg, ef]; exact Int32.le_refl _)] at ho2
      rw [← Option.some.inj ho1, ← Option.some.inj ho2]
      exact ⟨rfl, rfl, R6⟩
    · rw [if_neg d] at ho1
      have gg : g < gc := Int32.not_le.mp d
      have gi : g < 14 ∧ (0 ≤ g + 1 ∧ g + 1 ≤ gc) ∧ g ≤ 1200 := ⟨(zN14 R1.1 gg gc14).2.1, (zN14 R1.1 gg gc14).2.2.2.2, (zN14 R1.1 gg gc14).2.2.2.1⟩
      by_cases fg : gfx g.toNatClampNeg = (-1)
      · obtain ⟨j, j0, j1, j2, j3⟩ := zLead hN.2 G R1.1 gg
        have ek : fr.2 k.toNatClampNeg = j := by
          have := lf.2 j j0 j1 j2 (by rw [j3]; exact fg)
          have e9 : zFg gfx (zRk mG j.toNatClampNeg).toNatClampNeg = zFk gfx mG j.toNatClampNeg := zFreeC gfx mG j.toNatClampNeg (z14' j0 (Int32.le_trans (Int32.le_of_lt j1) hN.2.2))
          rw [← e9, j3, ← R3] at this
          exact this
        have kl : k < fr.1 := by
          rw [R3, ← ef]
          exact zct_lt (b := fun g => decide (gfx g = (-1))) R1.1 gg gc14 (decide_eq_true fg)
        have gj : gof j.toNatClampNeg = g := by rw [G.1.2.1 j j0 j1, j2, j3]
        obtain ⟨-, hj2, -⟩ := C j j0 j1
        rw [gj] at hj2
        obtain ⟨m, ho2⟩ := zl_un ho2
        try dsimp only at ho2
        rw [if_neg (show ¬ fr.1 ≤ k from Int32.not_le.mpr kl)] at ho2
        refine zl_ip2 (P := fun (o1 : Int32 × Int32 × Int32 × Int32 × (Nat → Int32) × Int32 × Int32 × (Nat → Int64)) (o2 : Int32 × Int32 × Int32 × Int32 × Int32 × Int32 × Int32 × Int32 × (Nat → Int32) × (Nat → Int32) × (Nat → Int64) × (Nat → Int64) × (Nat → Int64)) => zSgl cN gc cF gfx mG o1 o2) (fun s t => (0 ≤ s.2.1 ∧ s.2.1 ≤ cF) ∧ s.1 = t.1 ∧ s.2.1 = t.2.1 ∧ s.2.2.1 = t.2.2.2.2.1 ∧ s.2.2.2.1 = t.2.2.2.2.2.1 ∧ zBG cN gc cF gfx mG s.2.2.2.2.1 s.2.2.2.2.2.1 t.2.2.2.2.2.2.1 t.2.2.2.2.2.2.2.1 ∧ (∀ i : Int32, 0 ≤ i → i < 14 → ¬ i = g → s.2.2.2.2.2.2.2.2.1 i.toNatClampNeg = hand i.toNatClampNeg)) ?_ _ _ _ _ _ _ ?_ ho1 ho2
        · intro s t k3 k4 o3 o4 ⟨Q1, Q2, Q3, Q4, Q5, Q6, Q7⟩ hb2 hq1 hq2
          obtain ⟨be3, f, pa3, ce3, bg3, bf3, fa3, rs3, nr3, re3⟩ := s
          obtain ⟨be4, f4, fa4, fw4, pa4, ce4, sg4, sf4, l4, g4, tr4, em4⟩ := t
          dsimp only at Q1 Q2 Q3 Q4 Q5 Q6 Q7 hq1 hq2
          subst Q2 Q3 Q4 Q5
          obtain ⟨-, hq1⟩ := zg_s hq1
          obtain ⟨jj, ejj, hq1⟩ := zj_g hq1
          rw [if_pos fg] at hq1
          by_cases e : cF ≤ f
          · rw [if_pos e] at hq1 hq2
            have hq1 := zj_s ejj hq1
            obtain ⟨-, hq1⟩ := zg_s hq1
            have hq1 := zn_s hq1 rfl
            refine hb _ _ _ _ ?_ hq1 ⟨_, hq2⟩
            refine ⟨gi.2.1, rfl, ?_, rfl, rfl, Q6, fun i i0 i1 => ?_⟩
            · show k + 1 = zFg gfx (g + 1).toNatClampNeg
              rw [R3]
              exact (zct_t (b := fun g => decide (gfx g = (-1))) R1.1 gi.2.2 (decide_eq_true fg)).symm
            · show upd nr3 g.toNatClampNeg (hand g.toNatClampNeg) i.toNatClampNeg = hand i.toNatClampNeg
              rw [zup R1.1 i0]
              by_cases w : i = g
              · rw [if_pos w, w]
              · rw [if_neg w]; exact Q7 i i0 i1 w
          · rw [if_neg e] at hq1 hq2
            have hf : f < cF := Int32.not_le.mp e
            have fi : 0 ≤ f + 1 ∧ f + 1 ≤ cF := (zN14 Q1.1 hf (Int32.le_trans cF4 (by decide))).2.2.2.2
            obtain ⟨-, hq2⟩ := zg_s hq2
            obtain ⟨-, hq2⟩ := zg_s hq2
            rw [ek, ← hj2] at hq2
            have nq : ∀ i : Int32, 0 ≤ i → i < 14 → ¬ i = g → upd nr3 g.toNatClampNeg f i.toNatClampNeg = hand i.toNatClampNeg := by
              intro i i0 i1 w
              rw [zup R1.1 i0, if_neg w]
              exact Q7 i i0 i1 w
            by_cases u : f = hand g.toNatClampNeg
            · rw [if_pos u] at hq1
              rw [if_pos u.symm] at hq2
              refine hb2 _ _ _ _ ?_ hq1 hq2
              exact ⟨fi, rfl, rfl, rfl, rfl, Q6, nq⟩
            · rw [if_neg u] at hq1
              rw [if_neg (fun z => u z.symm)] at hq2
              obtain ⟨rk, hrk, hq1⟩ := zb_s hq1
              obtain ⟨t1, ht1, hq2⟩ := zb_s hq2
              obtain ⟨t2, ht2, hq2⟩ := zb_s hq2
              obtain ⟨ps, hps, hq2⟩ := zb_s hq2
              have tr1 := zTrH hN ht1
              have tr2 := zTrG hN ht2
              have C2 : zCh cN cF gof (upd nr3 g.toNatClampNeg f) t2 := by
                refine zCh_g T G C ⟨j0, j1⟩ ⟨Q1.1, hf⟩ (fun i i0 i1 => ?_) (fun i i0 i1 => ?_)
                · rw [gj]
                  by_cases w : i = g
                  · rw [if_pos w, zup R1.1 i0, if_pos w]
                  · rw [if_neg w]; exact nq i i0 i1 w
                · rw [j2, tr2 i i0 i1, tr1 i i0 i1]
              have pe := zPassEq (wd := rwd) T (zRN_1 R) (Or.inl rfl) C2 hrk hps
              by_cases v : rk.1 = 0
              · rw [if_pos v] at hq1
                rw [if_pos (show ps.1 = 0 from pe.1.symm.trans v)] at hq2
                refine hb2 _ _ _ _ ?_ hq1 hq2
                exact ⟨fi, rfl, rfl, rfl, rfl, Q6, nq⟩
              · rw [if_neg v] at hq1
                rw [if_neg (show ¬ ps.1 = 0 from fun z => v (pe.1.trans z))] at hq2
                obtain ⟨p5, hp5, hq1⟩ := zb_s hq1
                obtain ⟨p6, hp6, hq2⟩ := zb_s hq2
                have ep : p5 = p6 := zPriceEq T C2 hp5 hp6
                subst ep
                obtain ⟨ja, eja, hq1⟩ := zj_g hq1
                obtain ⟨jb, ejb, hq2⟩ := zj_g hq2
                have fin : ∀ v : Int32, ja v = some o3 → jb v = some o4 → zSgl cN gc cF gfx mG o3 o4 := by
                  intro v w1 w2
                  have w1 := zj_s eja w1
                  have w2 := zj_s ejb w2
                  by_cases lt : p5 < be3
                  · rw [if_neg (show ¬ be3 ≤ p5 from Int32.not_le.mpr lt)] at w1
                    rw [if_pos lt] at w2
                    obtain ⟨-, w2⟩ := zg_s w2
                    refine hb2 _ _ _ _ ?_ w1 w2
                    exact ⟨fi, rfl, rfl, rfl, rfl, Or.inr ⟨⟨R1.1, gg⟩, fg, ⟨j0, j1⟩, j2, j3, rfl, Q1.1, hf⟩, nq⟩
                  · rw [if_pos (Int32.not_lt.mp lt)] at w1
                    rw [if_neg lt] at w2
                    refine hb2 _ _ _ _ ?_ w1 w2
                    exact ⟨fi, rfl, rfl, rfl, rfl, Q6, nq⟩
                by_cases lo : own ≤ p5
                · rw [if_pos lo] at hq1 hq2
                  exact fin 0 hq1 hq2
                · rw [if_neg lo] at hq1 hq2
                  exact fin 1 hq1 hq2
        · exact ⟨⟨Int32.le_refl 0, Int32.le_of_lt cF0⟩, rfl, rfl, rfl, rfl, R6, fun i i0 i1 _ => R7 i i0 i1⟩
      · obtain ⟨B, eB, ho1⟩ := zl_g ho1
        have ho1 := zl_s eB ho1
        try dsimp only at ho1
        obtain ⟨-, ho1⟩ := zg_s ho1
        obtain ⟨jj, ejj, ho1⟩ := zj_g ho1
        rw [if_neg fg] at ho1
        have ho1 := zj_s ejj ho1
        obtain ⟨-, ho1⟩ := zg_s ho1
        have ho1 := zn_s ho1 rfl
        refine hb _ _ _ _ ?_ ho1 ho2
        refine ⟨gi.2.1, rfl, ?_, rfl, rfl, R6, fun i i0 i1 => ?_⟩
        · show k = zFg gfx (g + 1).toNatClampNeg
          rw [R3]
          exact (zct_f (b := fun g => decide (gfx g = (-1))) R1.1 gi.2.2 (fun q => fg (of_decide_eq_true q))).symm
        · show upd nr2 g.toNatClampNeg (hand g.toNatClampNeg) i.toNatClampNeg = hand i.toNatClampNeg
          rw [zup R1.1 i0]
          by_cases w : i = g
          · rw [if_pos w, w]
          · rw [if_neg w]; exact R7 i i0 i1
  · refine ⟨⟨Int32.le_refl 0, gb.1⟩, rfl, ?_, rfl, rfl, Or.inl ⟨rfl, rfl, rfl, rfl⟩, fun i i0 i1 => cn i i0 i1⟩
    show (0 : Int32) = zFg gfx (0 : Int32).toNatClampNeg
    rw [zn01.1]
    rfl
set_option maxHeartbeats 4000000 in
theorem zeq_single {cF cc cN inp gc gfr gcl mHh mFn mWn mFa mFw mS1 mS2 mS3 mS4 vPa vCe vBg vBf vFa vRs : Int32} {nF nN stp mst prc al made amt op fx jn lets gof gfx gld rwd hand mF mN mCst mNF mNN mS mM mC mW mO m1 m2 mX mG mH mTr mFr vNr : Nat → Int32} {rlo rhi mA mB mLe mGe mEr vRe : Nat → Int64} {mWb : Int64} {p1 : Int32} {x : Int32 × Int32 × Int32 × Int32 × Int32 × (Nat → Int32) × Int32 × Int32 × (Nat → Int64)} {y : Int32 × Int32 × Int32 × Int32 × Int32 × Int32 × Int32 × Int32 × Int32 × (Nat → Int32) × (Nat → Int32) × (Nat → Int64) × (Nat → Int64) × (Nat → Int64)} (T : zTN cF cc cN inp nF nN stp mst prc al made amt op fx jn lets mF mN mNF mNN mS mM mC mW mCst mO m1 m2 mX mG mA mB) (G : zGp cN gc gfr gcl gof gfx gld fx mG) (R : zRN cN (-1) 0 op made amt rwd rlo rhi) (H : zHN cN cF gcl mHh gof gfx hand mH) (h1 : fn_X11_single p1 cF cc cN gc gcl vPa vCe vBg vBf hand vNr made gof prc gfx vFa vRs stp op vRe amt rlo rhi mst al gld = some x) (h2 : fn_X12_single p1 mFn mWn mWb mHh mFa mFw mS1 mS2 mS3 mS4 mN mG mX mFr mH mTr mCst m1 m2 mC mF mO mLe mA mB mGe mS mEr mM mW = some y) : x.1 = y.1 := by
  have hN := T.2.1
  unfold fn_X11_single at h1
  unfold fn_X12_single at h2
  rw [zHasC hN.2.1, zb_some] at h1
  rw [zIsTh ⟨hN.1, hN.2.1⟩ H, zb_some] at h2
  by_cases c : 0 < cN ∧ gcl = 0
  · rw [if_neg (by rw [zif1]; exact fun q => q c)] at h1 h2
    obtain ⟨a, ha, h1⟩ := zb_s h1
    have hin : p1.toInt64 ≤ (3 : Int64) ↔ p1 ≤ 3 := by rw [show (3 : Int64) = (3 : Int32).toInt64 by decide +kernel, z64_le]
    simp only [zIsIn, zb_some, z64_ge0, hin] at h2
    by_cases d : 0 ≤ p1 ∧ p1 ≤ 3
    · rw [if_neg (by rw [zif1]; exact fun q => q d)] at h2
      obtain ⟨b, hb, h2⟩ := zb_s h2
      obtain ⟨s1, s2, s3⟩ := zLook T G R H c ha hb
      by_cases e0 : p1 = 0
      · rw [if_pos e0] at h1 h2
        rw [← Option.some.inj h1, ← Option.some.inj h2]
        exact s1
      · rw [if_neg e0] at h1 h2
        by_cases e1 : p1 = 1
        · rw [if_pos e1] at h1 h2
          rw [← Option.some.inj h1, ← Option.some.inj h2]
          exact s2
        · rw [if_neg e1] at h1 h2
          by_cases e2 : p1 = 2
          · rw [if_pos e2] at h1 h2
            obtain ⟨l, hl, h1⟩ := zb_s h1
            rw [← Option.some.inj h1, ← Option.some.inj h2]
            show l = b.2.2.2.2.2.2.1
            unfold fn_X2_leaderOf at hl
            rcases s3 with ⟨q1, _, q3, _⟩ | ⟨q1, _, q3, q4, q5, _⟩
            · rw [if_pos (show a.2.2.1 < 0 by rw [q1]; decide)] at hl
              rw [q3]
              exact (Option.some.inj hl).symm
            · rw [if_neg (show ¬ a.2.2.1 < 0 from Int32.not_lt.mpr q1.1), if_neg (show ¬ gc ≤ a.2.2.1 from Int32.not_le.mpr q1.2)] at hl
              obtain ⟨-, hl⟩ := zg_s hl
              have := (G.1.2.2.1 _ q3.1 q3.2 q4).1
              rw [q5] at this
              exact (Option.some.inj hl).symm.trans this
          · rw [if_neg e2] at h1 h2
            have e3 : p1 = 3 := zIs3 d e0 e1 e2
            rw [if_pos e3] at h1
            rw [← Option.some.inj h1, ← Option.some.inj h2]
            show a.2.2.2.1 = b.2.2.2.2.2.2.2.1
            rcases s3 with ⟨_, q2, _, q4⟩ | ⟨_, _, _, _, _, q6, _⟩
            · rw [q2, q4]
            · exact q6.symm
    · rw [if_pos (by rw [zif1]; exact d)] at h2
      have ne : ¬ p1 = 0 ∧ ¬ p1 = 1 ∧ ¬ p1 = 2 ∧ ¬ p1 = 3 := by
        refine ⟨fun q => d ?_, fun q => d ?_, fun q => d ?_, fun q => d ?_⟩ <;> rw [q] <;> decide
      rw [if_neg ne.1, if_neg ne.2.1, if_neg ne.2.2.1, if_neg ne.2.2.2] at h1
      rw [← Option.some.inj h1, ← Option.some.inj h2]
  · rw [if_pos (by rw [zif1]; exact c)] at h1 h2
    rw [← Option.some.inj h1, ← Option.some.inj h2]
/-! BY HALVES: a part of the row -/
noncomputable def zUc (gfx cd : Nat → Int32) : Nat → Int32 := zct (fun g => decide (gfx g = (-1) ∧ cd g = 0))
noncomputable def zHc (hc : Nat → Int32) : Nat → Int32 := zct (fun k => decide (hc k = 0))
noncomputable def zCd (gc : Int32) (gfx cd hc : Nat → Int32) : Prop := ∀ g : Int32, 0 ≤ g → g < gc → gfx g.toNatClampNeg = (-1) → (cd g.toNatClampNeg = 0 ↔ hc (zFg gfx g.toNatClampNeg).toNatClampNeg = 0)
theorem zUcH {gc : Int32} {gfx cd hc : Nat → Int32} (hg : 0 ≤ gc ∧ gc ≤ 14) (D : zCd gc gfx cd hc) : ∀ k : Nat, k ≤ gc.toNatClampNeg → zUc gfx cd k = zHc hc (zFg gfx k).toNatClampNeg := by
  intro k
  have l14 := z14' hg.1 hg.2
  induction k with
  | zero =>
    intro _
    show (0 : Int32) = zct _ (0 : Int32).toNatClampNeg
    rw [zn01.1]
    rfl
  | succ k ih =>
    intro hk
    have h := ih (by omega)
    obtain ⟨a1, a2, a3⟩ := zof hg.1 (show k < gc.toNatClampNeg by omega)
    have hb := zct_b (fun g => decide (gfx g = (-1))) k (by omega)
    have r : 0 ≤ zFg gfx k ∧ zFg gfx k ≤ 1200 := ⟨Int32.le_iff_toInt_le.mpr (by rw [zi_0]; exact hb.1), Int32.le_iff_toInt_le.mpr (by rw [z1200]; exact Int.le_trans hb.2 (by omega))⟩
    by_cases c : gfx k = (-1)
    · have e : zFg gfx (k + 1) = zFg gfx k + 1 := by
        show zFg gfx k + (if decide (gfx k = (-1)) = true then 1 else 0) = _
        rw [if_pos (decide_eq_true c)]
      have dk := D (Int32.ofNat k) a1 a2 (by rw [a3]; exact c)
      rw [a3] at dk
      by_cases d : cd k = 0
      · show zUc gfx cd k + (if decide (gfx k = (-1) ∧ cd k = 0) = true then 1 else 0) = _
        rw [if_pos (decide_eq_true ⟨c, d⟩), e, h]
        exact (zct_t (b := fun k => decide (hc k = 0)) r.1 r.2 (decide_eq_true (dk.mp d))).symm
      · show zUc gfx cd k + (if decide (gfx k = (-1) ∧ cd k = 0) = true then 1 else 0) = _
        rw [if_neg (fun q => d (of_decide_eq_true q).2), e, h, Int32.add_zero]
        exact (zct_f (b := fun k => decide (hc k = 0)) r.1 r.2 (fun q => d (dk.mpr (of_decide_eq_true q)))).symm
    · have e : zFg gfx (k + 1) = zFg gfx k := by
        show zFg gfx k + (if decide (gfx k = (-1)) = true then 1 else 0) = _
        rw [if_neg (fun q => c (of_decide_eq_true q))]
        exact Int32.add_zero _
      show zUc gfx cd k + (if decide (gfx k = (-1) ∧ cd k = 0) = true then 1 else 0) = _
      rw [if_neg (fun q => c (of_decide_eq_true q).1), e, h, Int32.add_zero]
theorem zFindU {gc : Int32} {gfx cd un : Nat → Int32} {x : Int32 × (Nat → Int32)} (hg : 0 ≤ gc ∧ gc ≤ 14) (h : fn_X3_findUnchanged gc gfx cd un = some x) : x.1 = zUc gfx cd gc.toNatClampNeg ∧ (∀ g : Int32, 0 ≤ g → g < gc → gfx g.toNatClampNeg = (-1) → cd g.toNatClampNeg = 0 → x.2 (zUc gfx cd g.toNatClampNeg).toNatClampNeg = g) := by
  unfold fn_X3_findUnchanged at h
  refine zl_ip (P := fun x : Int32 × (Nat → Int32) => x.1 = zUc gfx cd gc.toNatClampNeg ∧ (∀ g : Int32, 0 ≤ g → g < gc → gfx g.toNatClampNeg = (-1) → cd g.toNatClampNeg = 0 → x.2 (zUc gfx cd g.toNatClampNeg).toNatClampNeg = g)) (fun s => 0 ≤ s.2.1 ∧ s.2.1 ≤ gc ∧ s.1 = zUc gfx cd s.2.1.toNatClampNeg ∧ (∀ g : Int32, 0 ≤ g → g < s.2.1 → gfx g.toNatClampNeg = (-1) → cd g.toNatClampNeg = 0 → s.2.2 (zUc gfx cd g.toNatClampNeg).toNatClampNeg = g)) ?_ _ _ _ ?_ h
  rotate_left
  · exact ⟨Int32.le_refl 0, hg.1, by show (0 : Int32) = zct _ (0 : Int32).toNatClampNeg; rw [zn01.1]; rfl, fun k k1 k2 => absurd k2 (by show ¬ k < 0; (first | ((try clear h); grind) | grind))⟩
  intro s back o ⟨H1, H2, H3, H4⟩ hb ho
  obtain ⟨n, k, row⟩ := s
  dsimp only at H1 H2 H3 H4 ho
  by_cases c : gc ≤ k
  · rw [if_pos c] at ho
    rw [Int32.le_antisymm H2 c] at H3 H4
    rw [← Option.some.inj ho]
    exact ⟨H3, H4⟩
  · rw [if_neg c] at ho
    obtain ⟨-, ho⟩ := zg_s ho
    have hk : k < gc := Int32.not_le.mp c
    have kb : (0 ≤ k ∧ k < 100000) ∧ k ≤ 14 ∧ k ≤ 1200 ∧ 0 ≤ k + 1 ∧ k + 1 ≤ gc := ⟨(zN14 H1 hk hg.2).1, (zN14 H1 hk hg.2).2.2⟩
    have skip : ¬ (gfx k.toNatClampNeg = (-1) ∧ cd k.toNatClampNeg = 0) → back (n, k + 1, row) = some o → (o.1 = zUc gfx cd gc.toNatClampNeg ∧ (∀ g : Int32, 0 ≤ g → g < gc → gfx g.toNatClampNeg = (-1) → cd g.toNatClampNeg = 0 → o.2 (zUc gfx cd g.toNatClampNeg).toNatClampNeg = g)) := by
      intro w hbk
      refine hb _ _ ?_ hbk
      refine ⟨kb.2.2.2.1, kb.2.2.2.2, ?_, fun j j1 j2 j3 j4 => ?_⟩
      · show n = zUc gfx cd (k + 1).toNatClampNeg
        rw [H3]
        exact (zct_f (b := fun g => decide (gfx g = (-1) ∧ cd g = 0)) H1 kb.2.2.1 (fun q => w (of_decide_eq_true q))).symm
      · rcases zlt1 kb.1 j2 with q | q
        · rw [q] at j3 j4; exact absurd ⟨j3, j4⟩ w
        · exact H4 j j1 q j3 j4
    by_cases d : gfx k.toNatClampNeg = (-1)
    · rw [if_pos d] at ho
      by_cases e : cd k.toNatClampNeg = 0
      · rw [if_pos e] at ho
        obtain ⟨-, ho⟩ := zg_s ho
        refine hb _ _ ?_ ho
        refine ⟨kb.2.2.2.1, kb.2.2.2.2, ?_, fun j j1 j2 j3 j4 => ?_⟩
        · show n + 1 = zUc gfx cd (k + 1).toNatClampNeg
          rw [H3]
          exact (zct_t (b := fun g => decide (gfx g = (-1) ∧ cd g = 0)) H1 kb.2.2.1 (decide_eq_true ⟨d, e⟩)).symm
        · have nk : 0 ≤ zUc gfx cd k.toNatClampNeg := (zct_b32 (b := fun g => decide (gfx g = (-1) ∧ cd g = 0)) H1 kb.2.1).1
          show upd row n.toNatClampNeg k (zUc gfx cd j.toNatClampNeg).toNatClampNeg = j
          rcases zlt1 kb.1 j2 with q | q
          · rw [q, H3, zup nk nk, if_pos rfl]
          · have nj : 0 ≤ zUc gfx cd j.toNatClampNeg := (zct_b32 (b := fun g => decide (gfx g = (-1) ∧ cd g = 0)) j1 (Int32.le_trans (Int32.le_of_lt q) kb.2.1)).1
            have lt : zUc gfx cd j.toNatClampNeg < zUc gfx cd k.toNatClampNeg := zct_lt (b := fun g => decide (gfx g = (-1) ∧ cd g = 0)) j1 q kb.2.1 (decide_eq_true ⟨j3, j4⟩)
            rw [H3, zup nk nj, if_neg (fun w => by rw [w] at lt; exact absurd lt Int32.lt_irrefl)]
            exact H4 j j1 q j3 j4
      · rw [if_neg e] at ho
        exact skip (fun q => e q.2) ho
    · rw [if_neg d] at ho
      exact skip (fun q => d q.1) ho
/-- the row of GROUPS that stand unchanged, in both -/
noncomputable def zUn (gc n : Int32) (gfx un wr : Nat → Int32) : Prop := (0 ≤ n ∧ n ≤ 14) ∧ (∀ i : Int32, 0 ≤ i → i < n → (0 ≤ un i.toNatClampNeg ∧ un i.toNatClampNeg < gc) ∧ gfx (un i.toNatClampNeg).toNatClampNeg = (-1) ∧ wr i.toNatClampNeg = zFg gfx (un i.toNatClampNeg).toNatClampNeg) ∧ (∀ i j : Int32, 0 ≤ i → i < j → j < n → un i.toNatClampNeg < un j.toNatClampNeg)
theorem zUn_of {gc n : Int32} {gfx cd hc un wr : Nat → Int32} (hg : 0 ≤ gc ∧ gc ≤ 14) (D : zCd gc gfx cd hc) (hn : n = zUc gfx cd gc.toNatClampNeg) (hu : ∀ g : Int32, 0 ≤ g → g < gc → gfx g.toNatClampNeg = (-1) → cd g.toNatClampNeg = 0 → un (zUc gfx cd g.toNatClampNeg).toNatClampNeg = g) (hr : ∀ k : Int32, 0 ≤ k → k < zFg gfx gc.toNatClampNeg → hc k.toNatClampNeg = 0 → wr (zHc hc k.toNatClampNeg).toNatClampNeg = k) : zUn gc n gfx un wr ∧ (∀ i : Int32, 0 ≤ i → i < n → cd (un i.toNatClampNeg).toNatClampNeg = 0) := by
  have l14 := z14' hg.1 hg.2
  have b := zct_b32 (b := fun g => decide (gfx g = (-1) ∧ cd g = 0)) hg.1 hg.2
  have nb : 0 ≤ n ∧ n ≤ 14 := by rw [hn]; exact ⟨b.1, Int32.le_trans b.2 hg.2⟩
  have key : ∀ i : Int32, 0 ≤ i → i < n → ∃ g : Int32, 0 ≤ g ∧ g < gc ∧ gfx g.toNatClampNeg = (-1) ∧ cd g.toNatClampNeg = 0 ∧ zUc gfx cd g.toNatClampNeg = i ∧ un i.toNatClampNeg = g ∧ wr i.toNatClampNeg = zFg gfx g.toNatClampNeg := by
    intro i i0 i1
    rw [hn] at i1
    obtain ⟨k, k1, k2, k3⟩ := zct_sj gc.toNatClampNeg (by omega) i i0 i1
    obtain ⟨a1, a2, a3⟩ := zof hg.1 k1
    obtain ⟨c1, c2⟩ := of_decide_eq_true k2
    have u := hu (Int32.ofNat k) a1 a2 (by rw [a3]; exact c1) (by rw [a3]; exact c2)
    have ek : zUc gfx cd k = i := k3
    rw [a3, ek] at u
    have fl : zFg gfx (Int32.ofNat k).toNatClampNeg < zFg gfx gc.toNatClampNeg := zct_lt (b := fun g => decide (gfx g = (-1))) a1 a2 hg.2 (by rw [a3]; exact decide_eq_true c1)
    have f0 : 0 ≤ zFg gfx (Int32.ofNat k).toNatClampNeg := (zct_b32 (b := fun g => decide (gfx g = (-1))) a1 (Int32.le_trans (Int32.le_of_lt a2) hg.2)).1
    have h0 := (D (Int32.ofNat k) a1 a2 (by rw [a3]; exact c1)).mp (by rw [a3]; exact c2)
    have r := hr _ f0 fl h0
    have eh := zUcH hg D k (by omega)
    rw [ek] at eh
    rw [a3, ← eh] at r
    refine ⟨Int32.ofNat k, a1, a2, by rw [a3]; exact c1, by rw [a3]; exact c2, by rw [a3]; exact ek, u, ?_⟩
    rw [a3]
    exact r
  refine ⟨⟨nb, fun i i0 i1 => ?_, fun i j i0 ij j1 => ?_⟩, fun i i0 i1 => ?_⟩
  · obtain ⟨g, g0, g1, g2, g3, g4, g5, g6⟩ := key i i0 i1
    rw [g5]
    exact ⟨⟨g0, g1⟩, g2, g6⟩
  · obtain ⟨g, g0, g1, g2, g3, g4, g5, g6⟩ := key i i0 (zltt ij j1)
    obtain ⟨h, h0, h1, h2, h3, h4, h5, h6⟩ := key j (Int32.le_trans i0 (Int32.le_of_lt ij)) j1
    rw [g5, h5]
    apply Int32.not_le.mp
    intro q
    have m : zUc gfx cd h.toNatClampNeg ≤ zUc gfx cd g.toNatClampNeg := zct_m32 (b := fun g => decide (gfx g = (-1) ∧ cd g = 0)) h0 q (Int32.le_trans (Int32.le_of_lt g1) hg.2)
    rw [g4, h4] at m
    exact absurd ij (Int32.not_lt.mpr m)
  · obtain ⟨g, g0, g1, g2, g3, g4, g5, g6⟩ := key i i0 i1
    rw [g5]
    exact g3
theorem zUn_ne {gc n : Int32} {gfx un wr : Nat → Int32} (U : zUn gc n gfx un wr) {i j : Int32} (hi : 0 ≤ i ∧ i < n) (hj : 0 ≤ j ∧ j < n) (h : ¬ i = j) : ¬ un i.toNatClampNeg = un j.toNatClampNeg := by
  intro e
  rcases (zNe h) with q | q
  · have := U.2.2 i j hi.1 q hj.2
    rw [e] at this
    exact absurd this Int32.lt_irrefl
  · have := U.2.2 j i hj.1 q hi.2
    rw [e] at this
    exact absurd this Int32.lt_irrefl
/-- a part set to a FORMAT, by GROUPS -/
theorem zSetP {a b f : Int32} {un row x : Nat → Int32} (hab : 0 ≤ a ∧ a ≤ b ∧ b ≤ 14) (hu : ∀ k : Int32, a ≤ k → k < b → 0 ≤ un k.toNatClampNeg) (h : fn_X3_setPart a b f un row = some x) : ∀ i : Int32, 0 ≤ i → (∀ k : Int32, a ≤ k → k < b → un k.toNatClampNeg = i → x i.toNatClampNeg = f) ∧ ((∀ k : Int32, a ≤ k → k < b → ¬ un k.toNatClampNeg = i) → x i.toNatClampNeg = row i.toNatClampNeg) := by
  unfold fn_X3_setPart at h
  refine zl_ip (P := fun x : Nat → Int32 => ∀ i : Int32, 0 ≤ i → (∀ k : Int32, a ≤ k → k < b → un k.toNatClampNeg = i → x i.toNatClampNeg = f) ∧ ((∀ k : Int32, a ≤ k → k < b → ¬ un k.toNatClampNeg = i) → x i.toNatClampNeg = row i.toNatClampNeg)) (fun s => (a ≤ s.1 ∧ s.1 ≤ b) ∧ ∀ i : Int32, 0 ≤ i → (∀ k : Int32, a ≤ k → k < s.1 → un k.toNatClampNeg = i → s.2 i.toNatClampNeg = f) ∧ ((∀ k : Int32, a ≤ k → k < s.1 → ¬ un k.toNatClampNeg = i) → s.2 i.toNatClampNeg = row i.toNatClampNeg)) ?_ _ _ _ ?_ h
  rotate_left
  · exact ⟨⟨Int32.le_refl a, hab.2.1⟩, fun i i0 => ⟨fun k k0 k1 => absurd k1 (Int32.not_lt.mpr k0), fun _ => rfl⟩⟩
  intro s back o ⟨H1, H2⟩ hb ho
  obtain ⟨k, r⟩ := s
  dsimp only at H1 H2 ho
  by_cases c : b ≤ k
  · rw [if_pos c] at ho
    rw [Int32.le_antisymm H1.2 c] at H2
    rw [← Option.some.inj ho]
    exact H2
  · rw [if_neg c] at ho
    obtain ⟨-, ho⟩ := zg_s ho
    obtain ⟨-, ho⟩ := zg_s ho
    have kb : k < b := Int32.not_le.mp c
    have k1 : (0 ≤ k ∧ k < 100000) ∧ a ≤ k + 1 ∧ k + 1 ≤ b := zNab (Int32.le_trans hab.1 H1.1) H1.1 kb hab.2.2
    have u0 := hu k H1.1 kb
    refine hb _ _ ?_ ho
    refine ⟨k1.2, fun i i0 => ⟨fun l l0 l1 l2 => ?_, fun w => ?_⟩⟩
    · show upd r (un k.toNatClampNeg).toNatClampNeg f i.toNatClampNeg = f
      rw [zup u0 i0]
      by_cases q : i = un k.toNatClampNeg
      · rw [if_pos q]
      · rw [if_neg q]
        rcases zlt1 k1.1 l1 with z | z
        · rw [z] at l2; exact absurd l2.symm q
        · exact (H2 i i0).1 l l0 z l2
    · show upd r (un k.toNatClampNeg).toNatClampNeg f i.toNatClampNeg = row i.toNatClampNeg
      have nk : ¬ i = un k.toNatClampNeg := fun q => w k H1.1 (zlt3 k1.1).1 q.symm
      rw [zup u0 i0, if_neg nk]
      exact (H2 i i0).2 (fun l l0 l1 => w l l0 (zlt2 k1.1 l1))
theorem zFg_ne {gc g h : Int32} {gfx : Nat → Int32} (hc : gc ≤ 14) (hg : 0 ≤ g ∧ g < gc) (hh : 0 ≤ h ∧ h < gc) (fg : gfx g.toNatClampNeg = (-1)) (fh : gfx h.toNatClampNeg = (-1)) (e : zFg gfx g.toNatClampNeg = zFg gfx h.toNatClampNeg) : g = h := by
  apply Classical.byContradiction
  intro n
  rcases (zNe n) with q | q
  · have : zFg gfx g.toNatClampNeg < zFg gfx h.toNatClampNeg := zct_lt (b := fun g => decide (gfx g = (-1))) hg.1 q (Int32.le_trans (Int32.le_of_lt hh.2) hc) (decide_eq_true fg)
    rw [e] at this
    exact absurd this Int32.lt_irrefl
  · have : zFg gfx h.toNatClampNeg < zFg gfx g.toNatClampNeg := zct_lt (b := fun g => decide (gfx g = (-1))) hh.1 q (Int32.le_trans (Int32.le_of_lt hg.2) hc) (decide_eq_true fh)
    rw [e] at this
    exact absurd this Int32.lt_irrefl
/-- what the class says of a part, what the reference does -/
noncomputable def zPt (cN cF gc a b ts : Int32) (gof gfx un cd row : Nat → Int32) (x : Int32 × Int32 × (Nat → Int32) × Int32 × Int32 × (Nat → Int64) × (Nat → Int32)) (y : Int32 × Int32 × Int32 × Int32 × Int32 × (Nat → Int32) × (Nat → Int32) × (Nat → Int64) × (Nat → Int64) × (Nat → Int64) × (Nat → Int32)) : Prop := x.1 = y.1 ∧ x.2.1 = y.2.2.2.1 ∧ y.2.2.2.2.1 = ts + 1 ∧ zCh cN cF gof x.2.2.1 y.2.2.2.2.2.1 ∧ zCd gc gfx x.2.2.2.2.2.2 y.2.2.2.2.2.2.2.2.2.2 ∧ (x.1 = 0 ∧ x.2.2.2.2.2.2 = cd ∧ (∀ i : Int32, 0 ≤ i → x.2.2.1 i.toNatClampNeg = row i.toNatClampNeg) ∨ ¬ x.1 = 0 ∧ (∀ g : Int32, 0 ≤ g → (∀ k : Int32, a ≤ k → k < b → ¬ un k.toNatClampNeg = g) → x.2.2.2.2.2.2 g.toNatClampNeg = cd g.toNatClampNeg ∧ x.2.2.1 g.toNatClampNeg = row g.toNatClampNeg) ∧ (∀ k : Int32, a ≤ k → k < b → ¬ x.2.2.2.2.2.2 (un k.toNatClampNeg).toNatClampNeg = 0))
theorem znar : ¬ vp_nar .boolean 1 = 0 ∧ vp_nar .boolean 0 = 0 := by decide +kernel
theorem zMark {ρ : Type} {a b : Int32} {un cd : Nat → Int32} {K : Int32 × (Nat → Int32) → Option ρ} {n : Nat} {o : ρ} (hab : 0 ≤ a ∧ a ≤ b ∧ b ≤ 14) (hu : ∀ k : Int32, a ≤ k → k < b → 0 ≤ un k.toNatClampNeg) (h : zl (fun (s : Int32 × (Nat → Int32)) back => if b ≤ s.1 then K s else zg s.1 14 (zg (un s.1.toNatClampNeg) 14 (zn (upd s.2 (un s.1.toNatClampNeg).toNatClampNeg (vp_nar .boolean 1)) (fun g => back (s.1 + 1, g))))) n (a, cd) = some o) : ∃ (k : Int32) (m : Nat → Int32), K (k, m) = some o ∧ ∀ i : Int32, 0 ≤ i → (∀ k : Int32, a ≤ k → k < b → un k.toNatClampNeg = i → ¬ m i.toNatClampNeg = 0) ∧ ((∀ k : Int32, a ≤ k → k < b → ¬ un k.toNatClampNeg = i) → m i.toNatClampNeg = cd i.toNatClampNeg) := by
  refine zl_ip (P := fun o : ρ => ∃ (k : Int32) (m : Nat → Int32), K (k, m) = some o ∧ ∀ i : Int32, 0 ≤ i → (∀ k : Int32, a ≤ k → k < b → un k.toNatClampNeg = i → ¬ m i.toNatClampNeg = 0) ∧ ((∀ k : Int32, a ≤ k → k < b → ¬ un k.toNatClampNeg = i) → m i.toNatClampNeg = cd i.toNatClampNeg)) (fun s => (a ≤ s.1 ∧ s.1 ≤ b) ∧ ∀ i : Int32, 0 ≤ i → (∀ k : Int32, a ≤ k → k < s.1 → un k.toNatClampNeg = i → ¬ s.2 i.toNatClampNeg = 0) ∧ ((∀ k : Int32, a ≤ k → k < s.1 → ¬ un k.toNatClampNeg = i) → s.2 i.toNatClampNeg = cd i.toNatClampNeg)) ?_ _ _ _ ?_ h
  rotate_left
  · exact ⟨⟨Int32.le_refl a, hab.2.1⟩, fun i i0 => ⟨fun k k0 k1 => absurd k1 (Int32.not_lt.mpr k0), fun _ => rfl⟩⟩
  intro s back o ⟨H1, H2⟩ hb ho
  obtain ⟨k, r⟩ := s
  dsimp only at H1 H2 ho
  by_cases c : b ≤ k
  · rw [if_pos c] at ho
    rw [Int32.le_antisymm H1.2 c] at H2
    exact ⟨k, r, ho, H2⟩
  · rw [if_neg c] at ho
    obtain ⟨-, ho⟩ := zg_s ho
    obtain ⟨-, ho⟩ := zg_s ho
    have ho := zn_s ho rfl
    have kb : k < b := Int32.not_le.mp c
    have k1 : (0 ≤ k ∧ k < 100000) ∧ a ≤ k + 1 ∧ k + 1 ≤ b := zNab (Int32.le_trans hab.1 H1.1) H1.1 kb hab.2.2
    have u0 := hu k H1.1 kb
    refine hb _ _ ?_ ho
    refine ⟨k1.2, fun i i0 => ⟨fun l l0 l1 l2 => ?_, fun w => ?_⟩⟩
    · show ¬ upd r (un k.toNatClampNeg).toNatClampNeg (vp_nar .boolean 1) i.toNatClampNeg = 0
      rw [zup u0 i0]
      by_cases q : i = un k.toNatClampNeg
      · rw [if_pos q]; exact znar.1
      · rw [if_neg q]
        rcases zlt1 k1.1 l1 with z | z
        · rw [z] at l2; exact absurd l2.symm q
        · exact (H2 i i0).1 l l0 z l2
    · show upd r (un k.toNatClampNeg).toNatClampNeg (vp_nar .boolean 1) i.toNatClampNeg = cd i.toNatClampNeg
      have nk : ¬ i = un k.toNatClampNeg := fun q => w k H1.1 (zlt3 k1.1).1 q.symm
      rw [zup u0 i0, if_neg nk]
      exact (H2 i i0).2 (fun l l0 l1 => w l l0 (zlt2 k1.1 l1))
theorem zCopyK {ρ : Type} {c : Int32} {so tr : Nat → Int32} {K : Int32 × (Nat → Int32) → Option ρ} {n : Nat} {o : ρ} (hc : 0 ≤ c ∧ c ≤ 14) (h : zl (fun (s : Int32 × (Nat → Int32)) back => if c ≤ s.1 then K s else zg s.1 14 (back (s.1 + 1, upd s.2 s.1.toNatClampNeg (so s.1.toNatClampNeg)))) n (0, tr) = some o) : ∃ (k : Int32) (m : Nat → Int32), K (k, m) = some o ∧ ∀ i : Int32, 0 ≤ i → i < c → m i.toNatClampNeg = so i.toNatClampNeg := by
  refine zl_ip (P := fun o : ρ => ∃ (k : Int32) (m : Nat → Int32), K (k, m) = some o ∧ ∀ i : Int32, 0 ≤ i → i < c → m i.toNatClampNeg = so i.toNatClampNeg) (fun s => (0 ≤ s.1 ∧ s.1 ≤ c) ∧ ∀ i : Int32, 0 ≤ i → i < s.1 → s.2 i.toNatClampNeg = so i.toNatClampNeg) ?_ _ _ _ ?_ h
  rotate_left
  · exact ⟨⟨Int32.le_refl 0, hc.1⟩, fun i i0 i1 => absurd i1 (Int32.not_lt.mpr i0)⟩
  intro s back o ⟨H1, H2⟩ hb ho
  obtain ⟨k, r⟩ := s
  dsimp only at H1 H2 ho
  by_cases d : c ≤ k
  · rw [if_pos d] at ho
    rw [Int32.le_antisymm H1.2 d] at H2
    exact ⟨k, r, ho, H2⟩
  · rw [if_neg d] at ho
    obtain ⟨-, ho⟩ := zg_s ho
    have k1 : (0 ≤ k ∧ k < 100000) ∧ 0 ≤ k + 1 ∧ k + 1 ≤ c := ⟨(zN14 H1.1 (Int32.not_le.mp d) hc.2).1, (zN14 H1.1 (Int32.not_le.mp d) hc.2).2.2.2.2⟩
    refine hb _ _ ?_ ho
    refine ⟨k1.2, fun i i0 i1 => ?_⟩
    show upd r k.toNatClampNeg (so k.toNatClampNeg) i.toNatClampNeg = so i.toNatClampNeg
    rw [zup H1.1 i0]
    rcases zlt1 k1.1 i1 with q | q
    · rw [if_pos q, q]
    · rw [if_neg (fun z => by rw [z] at q; exact absurd q Int32.lt_irrefl)]; exact H2 i i0 q
theorem zTryP {cN : Int32} {mN mG : Nat → Int32} {ρ : Type} {a b f : Int32} {fr wr t0 : Nat → Int32} {K : Int32 × (Nat → Int32) → Option ρ} {n : Nat} {o : ρ} (hN : mN 0 = cN ∧ 0 ≤ cN ∧ cN ≤ 14) (hab : 0 ≤ a ∧ a ≤ b ∧ b ≤ 14) (h : zl (fun (s : Int32 × (Nat → Int32)) back => if b ≤ s.1 then K s else zg s.1 14 (zg (wr s.1.toNatClampNeg) 14 (zb (fn_X12_triesGroup (fr (wr s.1.toNatClampNeg).toNatClampNeg) f mN mG s.2) (fun o => back (s.1 + 1, o))))) n (a, t0) = some o) : ∃ (k : Int32) (m : Nat → Int32), K (k, m) = some o ∧ ∀ i : Int32, 0 ≤ i → i < cN → (∀ k : Int32, a ≤ k → k < b → mG i.toNatClampNeg = fr (wr k.toNatClampNeg).toNatClampNeg → m i.toNatClampNeg = f) ∧ ((∀ k : Int32, a ≤ k → k < b → ¬ mG i.toNatClampNeg = fr (wr k.toNatClampNeg).toNatClampNeg) → m i.toNatClampNeg = t0 i.toNatClampNeg) := by
  refine zl_ip (P := fun o : ρ => ∃ (k : Int32) (m : Nat → Int32), K (k, m) = some o ∧ ∀ i : Int32, 0 ≤ i → i < cN → (∀ k : Int32, a ≤ k → k < b → mG i.toNatClampNeg = fr (wr k.toNatClampNeg).toNatClampNeg → m i.toNatClampNeg = f) ∧ ((∀ k : Int32, a ≤ k → k < b → ¬ mG i.toNatClampNeg = fr (wr k.toNatClampNeg).toNatClampNeg) → m i.toNatClampNeg = t0 i.toNatClampNeg)) (fun s => (a ≤ s.1 ∧ s.1 ≤ b) ∧ ∀ i : Int32, 0 ≤ i → i < cN → (∀ k : Int32, a ≤ k → k < s.1 → mG i.toNatClampNeg = fr (wr k.toNatClampNeg).toNatClampNeg → s.2 i.toNatClampNeg = f) ∧ ((∀ k : Int32, a ≤ k → k < s.1 → ¬ mG i.toNatClampNeg = fr (wr k.toNatClampNeg).toNatClampNeg) → s.2 i.toNatClampNeg = t0 i.toNatClampNeg)) ?_ _ _ _ ?_ h
  rotate_left
  · exact ⟨⟨Int32.le_refl a, hab.2.1⟩, fun i i0 i1 => ⟨fun k k0 k1 => absurd k1 (Int32.not_lt.mpr k0), fun _ => rfl⟩⟩
  intro s back o ⟨H1, H2⟩ hb ho
  obtain ⟨k, r⟩ := s
  dsimp only at H1 H2 ho
  by_cases c : b ≤ k
  · rw [if_pos c] at ho
    rw [Int32.le_antisymm H1.2 c] at H2
    exact ⟨k, r, ho, H2⟩
  · rw [if_neg c] at ho
    obtain ⟨-, ho⟩ := zg_s ho
    obtain ⟨-, ho⟩ := zg_s ho
    obtain ⟨t, ht, ho⟩ := zb_s ho
    have tg := zTrG hN ht
    have kb : k < b := Int32.not_le.mp c
    have k1 : (0 ≤ k ∧ k < 100000) ∧ a ≤ k + 1 ∧ k + 1 ≤ b := zNab (Int32.le_trans hab.1 H1.1) H1.1 kb hab.2.2
    refine hb _ _ ?_ ho
    refine ⟨k1.2, fun i i0 i1 => ⟨fun l l0 l1 l2 => ?_, fun w => ?_⟩⟩
    · show t i.toNatClampNeg = f
      rw [tg i i0 i1]
      by_cases q : mG i.toNatClampNeg = fr (wr k.toNatClampNeg).toNatClampNeg
      · rw [if_pos q]
      · rw [if_neg q]
        rcases zlt1 k1.1 l1 with z | z
        · rw [z] at l2; exact absurd l2 q
        · exact (H2 i i0 i1).1 l l0 z l2
    · show t i.toNatClampNeg = t0 i.toNatClampNeg
      rw [tg i i0 i1, if_neg (w k H1.1 (zlt3 k1.1).1)]
      exact (H2 i i0 i1).2 (fun l l0 l1 => w l l0 (zlt2 k1.1 l1))
theorem zKeepsT {cN : Int32} {mN mCst mC m1 m2 : Nat → Int32} {t so : Nat → Int32} {x : Int32 × (Nat → Int32)} (hN : mN 0 = cN ∧ 0 ≤ cN ∧ cN ≤ 14) (h : fn_X12_keepsTried mN t so mCst m1 m2 mC = some x) : fn_X12_costTried mCst mN m1 t m2 mC = some x.1 ∧ ∀ i : Int32, 0 ≤ i → i < cN → x.2 i.toNatClampNeg = t i.toNatClampNeg := by
  unfold fn_X12_keepsTried at h
  rw [zn01.1, hN.1] at h
  obtain ⟨k, m, h, hm⟩ := zCopyK hN.2 h
  try dsimp only at h
  obtain ⟨w, hw, h⟩ := zb_s h
  rw [← Option.some.inj h]
  exact ⟨hw, hm⟩
theorem zCh_r {cN cF : Int32} {gof ch ch' t : Nat → Int32} (C : zCh cN cF gof ch t) (h : ∀ i : Int32, 0 ≤ i → ch' i.toNatClampNeg = ch i.toNatClampNeg) : zCh cN cF gof ch' t := by
  intro i i0 i1
  obtain ⟨⟨a1, a2⟩, c2, c3, c4⟩ := C i i0 i1
  rw [h _ a1]
  exact ⟨⟨a1, a2⟩, c2, c3, c4⟩
/-- the least NUMBER of the k-th GROUP of the row -/
theorem zLdr {cF cc cN inp gc gfr gcl mFn : Int32} {nF nN stp mst prc al made amt op fx jn lets gof gfx gld mF mN mCst mNF mNN mS mM mC mW mO m1 m2 mX mG : Nat → Int32} {mA mB : Nat → Int64} {n k : Int32} {un wr fr : Nat → Int32} (T : zTN cF cc cN inp nF nN stp mst prc al made amt op fx jn lets mF mN mNF mNN mS mM mC mW mCst mO m1 m2 mX mG mA mB) (G : zGp cN gc gfr gcl gof gfx gld fx mG) (L : zFL cN mFn gfx mG fr) (U : zUn gc n gfx un wr) (k0 : 0 ≤ k) (k1 : k < n) : ∃ j : Int32, (0 ≤ j ∧ j < cN) ∧ mG j.toNatClampNeg = j ∧ gof j.toNatClampNeg = un k.toNatClampNeg ∧ fr (wr k.toNatClampNeg).toNatClampNeg = j := by
  have hN := T.2.1
  obtain ⟨u1, u2, u3⟩ := U.2.1 k k0 k1
  obtain ⟨j, j0, j1, j2, j3⟩ := zLead hN.2 G u1.1 u1.2
  refine ⟨j, ⟨j0, j1⟩, j2, by rw [G.1.2.1 j j0 j1, j2, j3], ?_⟩
  have l := L.2 j j0 j1 j2 (by rw [j3]; exact u2)
  have e9 : zFg gfx (zRk mG j.toNatClampNeg).toNatClampNeg = zFk gfx mG j.toNatClampNeg := zFreeC gfx mG j.toNatClampNeg (z14' j0 (Int32.le_trans (Int32.le_of_lt j1) hN.2.2))
  rw [← e9, j3, ← u3] at l
  exact l
set_option maxHeartbeats 8000000 in
theorem zPart {cF cc cN inp gc gfr gcl mFn : Int32} {nF nN stp mst prc al made amt op fx jn lets gof gfx gld rwd mF mN mCst mNF mNN mS mM mC mW mO m1 m2 mX mG mTr : Nat → Int32} {rlo rhi mA mB mLe mGe mEr : Nat → Int64} {mWb : Int64} {a b len f fin n pr ts fa0 rs0 : Int32} {un wr fr row so cd hc : Nat → Int32} {re0 : Nat → Int64} {x : Int32 × Int32 × (Nat → Int32) × Int32 × Int32 × (Nat → Int64) × (Nat → Int32)} {y : Int32 × Int32 × Int32 × Int32 × Int32 × (Nat → Int32) × (Nat → Int32) × (Nat → Int64) × (Nat → Int64) × (Nat → Int64) × (Nat → Int32)} (T : zTN cF cc cN inp nF nN stp mst prc al made amt op fx jn lets mF mN mNF mNN mS mM mC mW mCst mO m1 m2 mX mG mA mB) (G : zGp cN gc gfr gcl gof gfx gld fx mG) (R : zRN cN (-1) 0 op made amt rwd rlo rhi) (L : zFL cN mFn gfx mG fr) (U : zUn gc n gfx un wr) (hab : 0 ≤ a ∧ a ≤ b ∧ b ≤ n) (hl : a + len = b) (hf : 0 ≤ f ∧ f < cF) (C : zCh cN cF gof row so) (hfin : ∀ k : Int32, a ≤ k → k < b → row (un k.toNatClampNeg).toNatClampNeg = fin) (D : zCd gc gfx cd hc) (h1 : fn_X3_changePart a b f fin pr un row cF cc cN made gof prc fa0 rs0 stp op re0 amt rlo rhi mst al cd = some x) (h2 : fn_X12_isBetter a len f (-1) mWb pr ts mN so mTr wr fr mG mO m1 m2 mLe mA mB mGe mS mEr mM mW mCst mC hc = some y) : zPt cN cF gc a b ts gof gfx un cd row x y := by
  have hN := T.2.1
  have gb := zRk_b (G := mG) (p := cN) hN.2.1 hN.2.2
  rw [← G.1.1] at gb
  have gc14 : gc ≤ 14 := Int32.le_trans gb.2 hN.2.2
  have b14 : 0 ≤ a ∧ a ≤ b ∧ b ≤ 14 := ⟨hab.1, hab.2.1, Int32.le_trans hab.2.2 U.1.2⟩
  have kin : ∀ k : Int32, a ≤ k → k < b → 0 ≤ k ∧ k < n := fun k k0 k1 => ⟨Int32.le_trans hab.1 k0, Int32.lt_of_lt_of_le k1 hab.2.2⟩
  have hu : ∀ k : Int32, a ≤ k → k < b → 0 ≤ un k.toNatClampNeg := fun k k0 k1 => (U.2.1 k (kin k k0 k1).1 (kin k k0 k1).2).1.1
  have hr : ∀ k : Int32, a ≤ k → k < b → 0 ≤ wr k.toNatClampNeg := fun k k0 k1 => by
    obtain ⟨u1, u2, u3⟩ := U.2.1 k (kin k k0 k1).1 (kin k k0 k1).2
    rw [u3]
    exact (zct_b32 (b := fun g => decide (gfx g = (-1))) u1.1 (Int32.le_trans (Int32.le_of_lt u1.2) gc14)).1
  unfold fn_X3_changePart at h1
  unfold fn_X12_isBetter at h2
  obtain ⟨r1, hr1, h1⟩ := zb_s h1
  obtain ⟨p, hp, h1⟩ := zb_s h1
  rw [hl, zn01.1, hN.1] at h2
  obtain ⟨k9, t0, h2, ht0⟩ := zCopyK hN.2 h2
  try dsimp only at h2
  obtain ⟨k8, t, h2, ht⟩ := zTryP hN b14 h2
  try dsimp only at h2
  obtain ⟨ps, hps, h2⟩ := zb_s h2
  have S1 := zSetP b14 hu hr1
  -- the same tried
  have C1 : zCh cN cF gof r1 t := by
    intro i i0 i1
    obtain ⟨⟨a1, a2⟩, a3, a4, a5⟩ := C i i0 i1
    have same : ∀ k : Int32, a ≤ k → k < b → (un k.toNatClampNeg = gof i.toNatClampNeg ↔ mG i.toNatClampNeg = fr (wr k.toNatClampNeg).toNatClampNeg) := fun k k0 k1 => by
      obtain ⟨j, jj, j2, j3, j4⟩ := zLdr T G L U (kin k k0 k1).1 (kin k k0 k1).2
      have e := zGp_eq hN.2.2 T.2.2.2.2.2.2.2.2 G ⟨i0, i1⟩ jj
      rw [j3, j2] at e
      rw [j4, ← e]
      exact ⟨fun q => q.symm, fun q => q.symm⟩
    by_cases q : ∃ k : Int32, a ≤ k ∧ k < b ∧ un k.toNatClampNeg = gof i.toNatClampNeg
    · obtain ⟨k, k0, k1, k2⟩ := q
      rw [(S1 _ a1).1 k k0 k1 k2, (ht i i0 i1).1 k k0 k1 ((same k k0 k1).mp k2)]
      exact ⟨⟨a1, a2⟩, rfl, hf.1, hf.2⟩
    · rw [(S1 _ a1).2 (fun k k0 k1 k2 => q ⟨k, k0, k1, k2⟩), (ht i i0 i1).2 (fun k k0 k1 k2 => q ⟨k, k0, k1, (same k k0 k1).mpr k2⟩), ht0 i i0 i1]
      exact ⟨⟨a1, a2⟩, a3, a4, a5⟩
  -- back to what it was
  have bk : ∀ r2 : Nat → Int32, fn_X3_setPart a b fin un r1 = some r2 → ∀ i : Int32, 0 ≤ i → r2 i.toNatClampNeg = row i.toNatClampNeg := by
    intro r2 hr2 i i0
    have S2 := zSetP b14 hu hr2 i i0
    by_cases q : ∃ k : Int32, a ≤ k ∧ k < b ∧ un k.toNatClampNeg = i
    · obtain ⟨k, k0, k1, k2⟩ := q
      rw [S2.1 k k0 k1 k2, ← hfin k k0 k1, k2]
    · rw [S2.2 (fun k k0 k1 k2 => q ⟨k, k0, k1, k2⟩)]
      exact (S1 i i0).2 (fun k k0 k1 k2 => q ⟨k, k0, k1, k2⟩)
  -- where the reference says no
  have no : (y.1 = 0 ∧ y.2.2.2.1 = pr ∧ y.2.2.2.2.1 = ts + 1 ∧ y.2.2.2.2.2.1 = so ∧ y.2.2.2.2.2.2.2.2.2.2 = hc) → (x.1 = 0 ∧ x.2.1 = pr ∧ x.2.2.2.2.2.2 = cd ∧ ∀ i : Int32, 0 ≤ i → x.2.2.1 i.toNatClampNeg = row i.toNatClampNeg) → zPt cN cF gc a b ts gof gfx un cd row x y := by
    intro ⟨y1, y2, y3, y4, y5⟩ ⟨x1, x2, x3, x4⟩
    exact ⟨x1.trans y1.symm, x2.trans y2.symm, y3, by rw [y4]; exact zCh_r C x4, by rw [x3, y5]; exact D, Or.inl ⟨x1, x3, x4⟩⟩
  by_cases c : pr ≤ p
  · rw [if_pos c] at h1
    obtain ⟨r2, hr2, h1⟩ := zb_s h1
    refine no ?_ (by rw [← Option.some.inj h1]; exact ⟨rfl, rfl, rfl, bk r2 hr2⟩)
    by_cases z : ps.1 = 0
    · rw [if_pos z] at h2
      rw [← Option.some.inj h2]
      exact ⟨rfl, rfl, rfl, rfl, rfl⟩
    · rw [if_neg z] at h2
      obtain ⟨w, hw, h2⟩ := zb_s h2
      have ew : p = w := zPriceEq T C1 hp hw
      rw [if_neg (show ¬ w < pr by rw [← ew]; exact Int32.not_lt.mpr c)] at h2
      rw [← Option.some.inj h2]
      exact ⟨rfl, rfl, rfl, rfl, rfl⟩
  · rw [if_neg c] at h1
    obtain ⟨rk, hrk, h1⟩ := zb_s h1
    have pe := zPassEq (wd := rwd) T (zRN_1 R) (Or.inl rfl) C1 hrk hps
    by_cases z : rk.1 = 0
    · rw [if_pos z] at h1
      rw [if_pos (show ps.1 = 0 from pe.1.symm.trans z)] at h2
      obtain ⟨r2, hr2, h1⟩ := zb_s h1
      refine no ?_ (by rw [← Option.some.inj h1]; exact ⟨rfl, rfl, rfl, bk r2 hr2⟩)
      rw [← Option.some.inj h2]
      exact ⟨rfl, rfl, rfl, rfl, rfl⟩
    · rw [if_neg z] at h1
      rw [if_neg (show ¬ ps.1 = 0 from fun q => z (pe.1.trans q))] at h2
      obtain ⟨w, hw, h2⟩ := zb_s h2
      have ew : p = w := zPriceEq T C1 hp hw
      rw [if_pos (show w < pr by rw [← ew]; exact Int32.not_le.mp c)] at h2
      obtain ⟨kt, hkt, h2⟩ := zb_s h2
      obtain ⟨kt1, kt2⟩ := zKeepsT hN hkt
      obtain ⟨k7, cd', h1, hcd⟩ := zMark b14 hu h1
      obtain ⟨k6, hc', h2, hhc⟩ := zMark b14 hr h2
      try dsimp only at h1 h2
      rw [← Option.some.inj h1, ← Option.some.inj h2]
      refine ⟨rfl, ?_, rfl, ?_, ?_, Or.inr ⟨by show ¬ (1 : Int32) = 0; decide, fun g g0 q => ⟨(hcd g g0).2 q, (S1 g g0).2 q⟩, fun k k0 k1 => (hcd _ (hu k k0 k1)).1 k k0 k1 rfl⟩⟩
      · show p = kt.1
        rw [ew]
        exact Option.some.inj (hw.symm.trans kt1)
      · exact zCh_c C1 kt2
      · intro g g0 g1 g2
        show cd' g.toNatClampNeg = 0 ↔ hc' (zFg gfx g.toNatClampNeg).toNatClampNeg = 0
        have f0 : 0 ≤ zFg gfx g.toNatClampNeg := (zct_b32 (b := fun g => decide (gfx g = (-1))) g0 (Int32.le_trans (Int32.le_of_lt g1) gc14)).1
        by_cases q : ∃ k : Int32, a ≤ k ∧ k < b ∧ un k.toNatClampNeg = g
        · obtain ⟨k, k0, k1, k2⟩ := q
          have e1 := (hcd g g0).1 k k0 k1 k2
          have e2 := (hhc _ f0).1 k k0 k1 (by rw [(U.2.1 k (kin k k0 k1).1 (kin k k0 k1).2).2.2, k2])
          exact ⟨fun w => absurd w e1, fun w => absurd w e2⟩
        · rw [(hcd g g0).2 (fun k k0 k1 k2 => q ⟨k, k0, k1, k2⟩), (hhc _ f0).2 (fun k k0 k1 k2 => ?_)]
          · exact D g g0 g1 g2
          · obtain ⟨u1, u2, u3⟩ := U.2.1 k (kin k k0 k1).1 (kin k k0 k1).2
            rw [u3] at k2
            exact q ⟨k, k0, k1, zFg_ne gc14 u1 ⟨g0, g1⟩ u2 g2 k2⟩
/-! BY HALVES: all parts with one FORMAT, then all FORMATS -/
theorem zAddP {a b n : Int32} {P Q : Nat → Int32} {x : Int32 × (Nat → Int32) × (Nat → Int32)} (hn : n < 28) (h : fn_X3_addPart a b n P Q = some x) : x = (n + 1, upd P n.toNatClampNeg a, upd Q n.toNatClampNeg b) := by
  unfold fn_X3_addPart at h
  rw [if_neg (Int32.not_le.mpr hn)] at h
  obtain ⟨-, h⟩ := zg_s h
  exact (Option.some.inj h).symm
/-- parts that wait: of both, apart from each other, of GROUPS that stand unchanged -/
noncomputable def zQu (a b : Int32) (P Q pf pt un cd : Nat → Int32) : Prop := (∀ j : Int32, a ≤ j → j < b → pf j.toNatClampNeg = P j.toNatClampNeg ∧ pt j.toNatClampNeg = P j.toNatClampNeg + Q j.toNatClampNeg) ∧ (∀ i j : Int32, a ≤ i → i < b → a ≤ j → j < b → ¬ i = j → pt i.toNatClampNeg ≤ pf j.toNatClampNeg ∨ pt j.toNatClampNeg ≤ pf i.toNatClampNeg) ∧ (∀ j k : Int32, a ≤ j → j < b → pf j.toNatClampNeg ≤ k → k < pt j.toNatClampNeg → cd (un k.toNatClampNeg).toNatClampNeg = 0)
theorem zQu_skip {a b : Int32} {P Q pf pt un cd : Nat → Int32} (ha : 0 ≤ a ∧ a < 100) (h : zQu a b P Q pf pt un cd) : zQu (a + 1) b P Q pf pt un cd := by
  have l : ∀ j : Int32, a + 1 ≤ j → a ≤ j := fun j q => zLe1 ha q
  exact ⟨fun j j0 j1 => h.1 j (l j j0) j1, fun i j i0 i1 j0 j1 => h.2.1 i j (l i i0) i1 (l j j0) j1, fun j k j0 j1 => h.2.2 j k (l j j0) j1⟩
theorem zap1 {a l q h : Int32} (h1 : 0 ≤ a) (h2 : 1 ≤ l) (h3 : a + l ≤ 14) (h0 : a ≤ 13 ∧ l ≤ 14) (hh : 0 ≤ h ∧ h ≤ l) (e : q = a + l) : a ≤ a + h ∧ a + h ≤ q ∧ a + l - a = l ∧ a + h + (l - h) = a + l := by grind
theorem zap2 {p q a b u v : Int32} (h : q ≤ a ∨ b ≤ p) (h1 : p ≤ u) (h2 : v ≤ q) : v ≤ a ∨ b ≤ u := by grind
set_option maxHeartbeats 1000000 in
theorem zQu_split {n a b h : Int32} {P Q pf pt un cd : Nat → Int32} (V : zHv n a b P Q) (hab : a < b) (hQ : 2 ≤ Q a.toNatClampNeg) (eh : h = Q a.toNatClampNeg / 2) (Z : zQu a b P Q pf pt un cd) (hb : 0 ≤ b ∧ b ≤ 25) : zQu (a + 1) (b + 2) (upd (upd P b.toNatClampNeg (P a.toNatClampNeg)) (b + 1).toNatClampNeg (P a.toNatClampNeg + h)) (upd (upd Q b.toNatClampNeg h) (b + 1).toNatClampNeg (Q a.toNatClampNeg - h)) (upd (upd pf b.toNatClampNeg (pf a.toNatClampNeg)) (b + 1).toNatClampNeg (pf a.toNatClampNeg + h)) (upd (upd pt b.toNatClampNeg (pf a.toNatClampNeg + h)) (b + 1).toNatClampNeg (pt a.toNatClampNeg)) un cd := by
  obtain ⟨g1, g2, g3, g4, g5, g6, g7, g8⟩ := zHv_get V (Int32.not_le.mpr hab)
  have hh := zhalf (Q a.toNatClampNeg) (Int32.le_trans (by decide) g6)
  rw [← eh] at hh
  obtain ⟨z1, z2⟩ := Z.1 a (Int32.le_refl a) hab
  obtain ⟨e1, e2, e3, e4⟩ := zap1 (q := pt a.toNatClampNeg) (h := h) g4 g6 g8 ⟨g5, g7⟩ ⟨hh.1, hh.2.1⟩ z2
  have b1 : 0 ≤ b + 1 ∧ ¬ b + 1 = b ∧ 0 ≤ a + 1 := zBx1 hb g1 hab
  have sp : ∀ j : Int32, a + 1 ≤ j → j < b + 2 → 0 ≤ j ∧ (j = b ∨ j = b + 1 ∨ (a ≤ j ∧ j < b ∧ ¬ j = a ∧ ¬ j = b ∧ ¬ j = b + 1)) := fun j q1 q2 => zSp1 hb g1 hab q1 q2
  have u4 : ∀ (F : Nat → Int32) (x y j : Int32), 0 ≤ j → upd (upd F b.toNatClampNeg x) (b + 1).toNatClampNeg y j.toNatClampNeg = if j = b + 1 then y else if j = b then x else F j.toNatClampNeg := by
    intro F x y j j0
    rw [zup b1.1 j0]
    by_cases q : j = b + 1
    · rw [if_pos q, if_pos q]
    · rw [if_neg q, if_neg q, zup hb.1 j0]
  -- where each part lies
  have wh : ∀ j : Int32, a + 1 ≤ j → j < b + 2 → (upd (upd pf b.toNatClampNeg (pf a.toNatClampNeg)) (b + 1).toNatClampNeg (pf a.toNatClampNeg + h) j.toNatClampNeg = pf a.toNatClampNeg ∧ upd (upd pt b.toNatClampNeg (pf a.toNatClampNeg + h)) (b + 1).toNatClampNeg (pt a.toNatClampNeg) j.toNatClampNeg = pf a.toNatClampNeg + h ∧ j = b) ∨ (upd (upd pf b.toNatClampNeg (pf a.toNatClampNeg)) (b + 1).toNatClampNeg (pf a.toNatClampNeg + h) j.toNatClampNeg = pf a.toNatClampNeg + h ∧ upd (upd pt b.toNatClampNeg (pf a.toNatClampNeg + h)) (b + 1).toNatClampNeg (pt a.toNatClampNeg) j.toNatClampNeg = pt a.toNatClampNeg ∧ j = b + 1) ∨ (upd (upd pf b.toNatClampNeg (pf a.toNatClampNeg)) (b + 1).toNatClampNeg (pf a.toNatClampNeg + h) j.toNatClampNeg = pf j.toNatClampNeg ∧ upd (upd pt b.toNatClampNeg (pf a.toNatClampNeg + h)) (b + 1).toNatClampNeg (pt a.toNatClampNeg) j.toNatClampNeg = pt j.toNatClampNeg ∧ a ≤ j ∧ j < b ∧ ¬ j = a) := by
    intro j q1 q2
    obtain ⟨j0, w⟩ := sp j q1 q2
    rw [u4 _ _ _ _ j0, u4 _ _ _ _ j0]
    rcases w with w | w | ⟨w1, w2, w3, w4, w5⟩
    · have nb : ¬ j = b + 1 := by rw [w]; exact fun q => b1.2.1 q.symm
      rw [if_neg nb, if_neg nb, if_pos w, if_pos w]
      exact Or.inl ⟨rfl, rfl, w⟩
    · rw [if_pos w, if_pos w]
      exact Or.inr (Or.inl ⟨rfl, rfl, w⟩)
    · rw [if_neg w5, if_neg w5, if_neg w4, if_neg w4]
      exact Or.inr (Or.inr ⟨rfl, rfl, w1, w2, w3⟩)
  rw [← z1] at e1 e2
  refine ⟨fun j q1 q2 => ?_, fun i j i0 i1 j0 j1 ne => ?_, fun j k j0 j1 k0 k1 => ?_⟩
  · obtain ⟨j0, w⟩ := sp j q1 q2
    rw [u4 _ _ _ _ j0, u4 _ _ _ _ j0, u4 _ _ _ _ j0, u4 _ _ _ _ j0]
    rcases w with w | w | ⟨w1, w2, w3, w4, w5⟩
    · have nb : ¬ j = b + 1 := by rw [w]; exact fun q => b1.2.1 q.symm
      rw [if_neg nb, if_neg nb, if_neg nb, if_neg nb, if_pos w, if_pos w, if_pos w, if_pos w, z1]
      exact ⟨rfl, rfl⟩
    · rw [if_pos w, if_pos w, if_pos w, if_pos w, z1, z2]
      exact ⟨rfl, e4.symm⟩
    · rw [if_neg w5, if_neg w5, if_neg w5, if_neg w5, if_neg w4, if_neg w4, if_neg w4, if_neg w4]
      exact Z.1 j w1 w2
  · have dis : ∀ l : Int32, a ≤ l → l < b → ¬ l = a → pt a.toNatClampNeg ≤ pf l.toNatClampNeg ∨ pt l.toNatClampNeg ≤ pf a.toNatClampNeg := fun l l0 l1 l2 => Z.2.1 a l (Int32.le_refl a) hab l0 l1 (fun q => l2 q.symm)
    rcases wh i i0 i1 with ⟨x1, x2, x3⟩ | ⟨x1, x2, x3⟩ | ⟨x1, x2, x3, x4, x5⟩
    · rw [x1, x2]
      rcases wh j j0 j1 with ⟨y1, y2, y3⟩ | ⟨y1, y2, y3⟩ | ⟨y1, y2, y3, y4, y5⟩
      · exact absurd (x3.trans y3.symm) ne
      · rw [y1, y2]; exact Or.inl (Int32.le_refl _)
      · rw [y1, y2]; exact zap2 (dis j y3 y4 y5) (Int32.le_refl _) e2
    · rw [x1, x2]
      rcases wh j j0 j1 with ⟨y1, y2, y3⟩ | ⟨y1, y2, y3⟩ | ⟨y1, y2, y3, y4, y5⟩
      · rw [y1, y2]; exact Or.inr (Int32.le_refl _)
      · exact absurd (x3.trans y3.symm) ne
      · rw [y1, y2]; exact zap2 (dis j y3 y4 y5) e1 (Int32.le_refl _)
    · rw [x1, x2]
      rcases wh j j0 j1 with ⟨y1, y2, y3⟩ | ⟨y1, y2, y3⟩ | ⟨y1, y2, y3, y4, y5⟩
      · rw [y1, y2]; exact (zap2 (dis i x3 x4 x5) (Int32.le_refl _) e2).symm
      · rw [y1, y2]; exact (zap2 (dis i x3 x4 x5) e1 (Int32.le_refl _)).symm
      · rw [y1, y2]; exact Z.2.1 i j x3 x4 y3 y4 ne
  · rcases wh j j0 j1 with ⟨y1, y2, y3⟩ | ⟨y1, y2, y3⟩ | ⟨y1, y2, y3, y4, y5⟩
    · rw [y1] at k0
      rw [y2] at k1
      exact Z.2.2 a k (Int32.le_refl a) hab k0 (Int32.lt_of_lt_of_le k1 e2)
    · rw [y1] at k0
      rw [y2] at k1
      exact Z.2.2 a k (Int32.le_refl a) hab (Int32.le_trans e1 k0) k1
    · rw [y1] at k0
      rw [y2] at k1
      exact Z.2.2 j k y3 y4 k0 k1
/-- the CHOICE so far, in both -/
noncomputable def zSF (cN cF gc fin : Int32) (gof gfx row so cd hc : Nat → Int32) : Prop := zCh cN cF gof row so ∧ zCd gc gfx cd hc ∧ (∀ g : Int32, 0 ≤ g → g < gc → gfx g.toNatClampNeg = (-1) → cd g.toNatClampNeg = 0 → row g.toNatClampNeg = fin) ∧ (∀ g : Int32, 0 ≤ g → g < gc → ¬ gfx g.toNatClampNeg = (-1) → row g.toNatClampNeg = gfx g.toNatClampNeg)
noncomputable def zHW (cN cF gc fin : Int32) (gof gfx : Nat → Int32) (x : Int32 × Int32 × Int32 × (Nat → Int32) × (Nat → Int32) × (Nat → Int32) × (Nat → Int32) × (Nat → Int32) × Int32 × Int32 × (Nat → Int64)) (y : Int32 × Int32 × Int32 × Int32 × (Nat → Int32) × (Nat → Int32) × (Nat → Int32) × (Nat → Int32) × (Nat → Int32) × (Nat → Int32) × (Nat → Int64) × (Nat → Int64) × (Nat → Int64)) : Prop := x.1 = y.2.2.1 ∧ x.2.1 = y.2.2.2.1 ∧ zSF cN cF gc fin gof gfx x.2.2.2.2.2.2.2.1 y.2.2.2.2.2.2.2.2.1 x.2.2.2.1 y.2.2.2.2.1
theorem zHv_n {n a b : Int32} {P Q : Nat → Int32} (h : zHv n a b P Q) {j : Int32} (h1 : a ≤ j) (h2 : j < b) : 0 ≤ P j.toNatClampNeg ∧ 1 ≤ Q j.toNatClampNeg ∧ P j.toNatClampNeg + Q j.toNatClampNeg ≤ n ∧ P j.toNatClampNeg ≤ P j.toNatClampNeg + Q j.toNatClampNeg := by
  obtain ⟨k1, k2, k3, k4, k6, k7⟩ := h
  have e1 := Int32.le_iff_toInt_le.mp h1
  have e2 := Int32.lt_iff_toInt_lt.mp h2
  have ka : (j.toNatClampNeg : Int) = j.toInt := show ((j.toInt.toNat : Nat) : Int) = j.toInt by omega
  obtain ⟨p1, p2, p3⟩ := k6 j.toNatClampNeg (by omega) (by omega)
  have s := zo_add (x := P j.toNatClampNeg) (y := Q j.toNatClampNeg) (z := P j.toNatClampNeg + Q j.toNatClampNeg) rfl rfl rfl (by omega)
  exact ⟨zcc_le zi_0 p1, zcc_le zi_1 p2, Int32.le_iff_toInt_le.mpr (by omega), Int32.le_iff_toInt_le.mpr (by omega)⟩
set_option maxHeartbeats 16000000 in
theorem zHalveW {cF cc cN inp gc gfr gcl mFn mFa mFw mSc mTs vPr vTs vFa vRs : Int32} {nF nN stp mst prc al made amt op fx jn lets gof gfx gld rwd mF mN mCst mNF mNN mS mM mC mW mO m1 m2 mX mG mTr mFr mSo mHc mRw mPf mPm vRw vCd vUn vPf vPt : Nat → Int32} {rlo rhi mA mB mLe mGe mEr vRe : Nat → Int64} {mWb : Int64} {f fin : Int32} {x : Int32 × Int32 × Int32 × (Nat → Int32) × (Nat → Int32) × (Nat → Int32) × (Nat → Int32) × (Nat → Int32) × Int32 × Int32 × (Nat → Int64)} {y : Int32 × Int32 × Int32 × Int32 × (Nat → Int32) × (Nat → Int32) × (Nat → Int32) × (Nat → Int32) × (Nat → Int32) × (Nat → Int32) × (Nat → Int64) × (Nat → Int64) × (Nat → Int64)} (T : zTN cF cc cN inp nF nN stp mst prc al made amt op fx jn lets mF mN mNF mNN mS mM mC mW mCst mO m1 m2 mX mG mA mB) (G : zGp cN gc gfr gcl gof gfx gld fx mG) (R : zRN cN (-1) 0 op made amt rwd rlo rhi) (L : zFL cN mFn gfx mG mFr) (hf : 0 ≤ f ∧ f < cF) (S : zSF cN cF gc fin gof gfx vRw mSo vCd mHc) (hp : vPr = mSc) (ht : vTs = mTs) (h1 : fn_X3_halveWith f fin vPr vTs cF cc gc gfx vCd vUn vPf vPt vRw cN made gof prc vFa vRs stp op vRe amt rlo rhi mst al = some x) (h2 : fn_X12_halvesBy f mFn (-1) mWb mFa mFw mSc mTs mHc mRw mPf mPm mN mSo mTr mFr mG mO m1 m2 mLe mA mB mGe mS mEr mM mW mCst mC = some y) : zHW cN cF gc fin gof gfx x y := by
  have hN := T.2.1
  have gb := zRk_b (G := mG) (p := cN) hN.2.1 hN.2.2
  rw [← G.1.1] at gb
  have gc14 : 0 ≤ gc ∧ gc ≤ 14 := ⟨gb.1, Int32.le_trans gb.2 hN.2.2⟩
  have gf := zGfr T G
  have ef : zFg gfx gc.toNatClampNeg = mFn := by rw [L.1, gf.2]; exact G.2.symm
  have f14 : 0 ≤ mFn ∧ mFn ≤ 14 := by rw [L.1, gf.2]; exact gf.1
  unfold fn_X3_halveWith at h1
  unfold fn_X12_halvesBy at h2
  obtain ⟨u, hu, h1⟩ := zb_s h1
  obtain ⟨u1, u2⟩ := zFindU gc14 hu
  clear hu
  refine zl_ip (P := fun y : Int32 × Int32 × Int32 × Int32 × (Nat → Int32) × (Nat → Int32) × (Nat → Int32) × (Nat → Int32) × (Nat → Int32) × (Nat → Int32) × (Nat → Int64) × (Nat → Int64) × (Nat → Int64) => zHW cN cF gc fin gof gfx x y) (fun s => (0 ≤ s.2.1 ∧ s.2.1 ≤ mFn) ∧ s.1 = zHc mHc s.2.1.toNatClampNeg ∧ (∀ k : Int32, 0 ≤ k → k < s.2.1 → mHc k.toNatClampNeg = 0 → s.2.2 (zHc mHc k.toNatClampNeg).toNatClampNeg = k)) ?_ _ _ _ ?_ h2
  rotate_left
  · exact ⟨⟨Int32.le_refl 0, f14.1⟩, by show (0 : Int32) = zct _ (0 : Int32).toNatClampNeg; rw [zn01.1]; rfl, fun k k0 k1 => absurd k1 (Int32.not_lt.mpr k0)⟩
  intro s back o ⟨H1, H2, H3⟩ hb ho
  obtain ⟨n, k, wr⟩ := s
  dsimp only at H1 H2 H3 ho
  by_cases c : mFn ≤ k
  · rw [if_pos c] at ho
    clear hb
    rw [Int32.le_antisymm H1.2 c] at H2 H3
    obtain ⟨U, Ucd⟩ := zUn_of gc14 S.2.1 u1 u2 (fun k k0 k1 => H3 k k0 (by rw [← ef]; exact k1))
    have en : u.1 = n := by rw [u1, H2, zUcH gc14 S.2.1 gc.toNatClampNeg (Nat.le_refl _), ef]
    obtain ⟨ja, eja, h1⟩ := zj_g h1
    obtain ⟨jb, ejb, ho⟩ := zj_g ho
    have go : ∀ (ps : Int32) (pf pt P Q : Nat → Int32), zHv u.1 0 ps P Q → zQu 0 ps P Q pf pt u.2 vCd → ja (ps, pf, pt) = some x → jb (ps, P, Q) = some o → zHW cN cF gc fin gof gfx x o := by
      intro ps pf pt P Q V Z w1 w2
      have w1 := zj_s eja w1
      have w2 := zj_s ejb w2
      clear eja ejb h1 ho H3 u2
      refine zl_ip2 (P := fun (x : Int32 × Int32 × Int32 × (Nat → Int32) × (Nat → Int32) × (Nat → Int32) × (Nat → Int32) × (Nat → Int32) × Int32 × Int32 × (Nat → Int64)) (y : Int32 × Int32 × Int32 × Int32 × (Nat → Int32) × (Nat → Int32) × (Nat → Int32) × (Nat → Int32) × (Nat → Int32) × (Nat → Int32) × (Nat → Int64) × (Nat → Int64) × (Nat → Int64)) => zHW cN cF gc fin gof gfx x y) (fun s t => s.1 = t.1 ∧ s.2.2.2.1 = t.2.1 ∧ s.2.1 = t.2.2.2.2.1 ∧ s.2.2.1 = t.2.2.2.2.2.1 ∧ zSF cN cF gc fin gof gfx s.2.2.2.2.2.2.2.2.2.1 t.2.2.2.2.2.2.2.2.2.2.1 s.2.2.2.2.2.2.1 t.2.2.2.2.2.2.2.2.2.2.2.1 ∧ zHv u.1 t.1 t.2.1 t.2.2.2.2.2.2.2.2.2.2.2.2.1 t.2.2.2.2.2.2.2.2.2.2.2.2.2 ∧ zQu t.1 t.2.1 t.2.2.2.2.2.2.2.2.2.2.2.2.1 t.2.2.2.2.2.2.2.2.2.2.2.2.2 s.2.2.2.2.2.2.2.1 s.2.2.2.2.2.2.2.2.1 u.2 s.2.2.2.2.2.2.1) ?_ _ _ _ _ _ _ ?_ w1 w2
      rotate_left
      · exact ⟨rfl, rfl, hp, ht, S, V, Z⟩
      intro s t k1 k2 o1 o2 ⟨Q1, Q2, Q3, Q4, Q5, Q6, Q7⟩ hb2 q1 q2
      obtain ⟨p, pr, ts, ps, fa, rs, cd, pf, pt, row, re⟩ := s
      obtain ⟨p', ps', fa2, fw2, sc, ts2, le2, ge2, tr2, em2, so, hc, P, Q⟩ := t
      dsimp only at Q1 Q2 Q3 Q4 Q5 Q6 Q7 q1 q2
      subst Q1 Q2 Q3 Q4
      by_cases d : ps ≤ p
      · rw [if_pos d] at q1 q2
        rw [← Option.some.inj q1, ← Option.some.inj q2]
        exact ⟨rfl, rfl, Q5⟩
      · rw [if_neg d] at q1 q2
        have hab : p < ps := Int32.not_le.mp d
        obtain ⟨g1, g2, g3, g4, g5, g6, g7, g8⟩ := zHv_get Q6 d
        obtain ⟨v1, v2, v3, v4⟩ := zHv_n Q6 (Int32.le_refl p) hab
        have p28 : ¬ 28 ≤ p ∧ p < 100 := zP28 g2
        rw [if_neg p28.1] at q1
        obtain ⟨-, q1⟩ := zg_s q1
        obtain ⟨-, q2⟩ := zg_s q2
        obtain ⟨cp, hcp, q1⟩ := zb_s q1
        obtain ⟨ib, hib, q2⟩ := zb_s q2
        obtain ⟨z1, z2⟩ := Q7.1 p (Int32.le_refl p) hab
        rw [z1, z2] at hcp
        have kin : ∀ k : Int32, P p.toNatClampNeg ≤ k → k < P p.toNatClampNeg + Q p.toNatClampNeg → 0 ≤ k ∧ k < u.1 := fun k k0 k1 => ⟨Int32.le_trans v1 k0, Int32.lt_of_lt_of_le k1 v3⟩
        obtain ⟨x1, x2, x3, x4, x5, x6⟩ := zPart T G R L U ⟨v1, v4, v3⟩ rfl hf Q5.1 (fun k k0 k1 => by
          obtain ⟨m1, m2⟩ := kin k k0 k1
          obtain ⟨n1, n2, -⟩ := U.2.1 k m1 m2
          exact Q5.2.2.1 _ n1.1 n1.2 n2 (Q7.2.2 p k (Int32.le_refl p) hab (by rw [z1]; exact k0) (by rw [z2]; exact k1))) Q5.2.1 hcp hib
        have S' : zSF cN cF gc fin gof gfx cp.2.2.1 ib.2.2.2.2.2.1 cp.2.2.2.2.2.2 ib.2.2.2.2.2.2.2.2.2.2 := by
          rcases x6 with ⟨e1, e2, e3⟩ | ⟨e1, e2, e3⟩
          · refine ⟨x4, x5, fun g g0 g1 g2 g3 => ?_, fun g g0 g1 g2 => ?_⟩
            · rw [e3 g g0]
              rw [e2] at g3
              exact Q5.2.2.1 g g0 g1 g2 g3
            · rw [e3 g g0]
              exact Q5.2.2.2 g g0 g1 g2
          · refine ⟨x4, x5, fun g g0 g1 g2 g3 => ?_, fun g g0 g1 g2 => ?_⟩
            · obtain ⟨w1, w2⟩ := e2 g g0 (fun k k0 k1 q => e3 k k0 k1 (by rw [q]; exact g3))
              rw [w2]
              rw [w1] at g3
              exact Q5.2.2.1 g g0 g1 g2 g3
            · rw [(e2 g g0 (fun k k0 k1 q => g2 (by rw [← q]; exact (U.2.1 k (kin k k0 k1).1 (kin k k0 k1).2).2.1))).2]
              exact Q5.2.2.2 g g0 g1 g2
        have Zs : zQu (p + 1) ps P Q pf pt u.2 cp.2.2.2.2.2.2 := by
          have Zk := zQu_skip ⟨g1, p28.2⟩ Q7
          rcases x6 with ⟨_, e2, _⟩ | ⟨_, e2, _⟩
          · rw [e2]; exact Zk
          · refine ⟨Zk.1, Zk.2.1, fun j k j0 j1 k0 k1 => ?_⟩
            have old := Zk.2.2 j k j0 j1 k0 k1
            have pj : p ≤ j ∧ ¬ p = j := zPj1 ⟨g1, p28.2⟩ j0
            obtain ⟨y1, y2⟩ := Q7.1 j pj.1 j1
            obtain ⟨y3, -, y4, -⟩ := zHv_n Q6 pj.1 j1
            have kn : 0 ≤ k ∧ k < u.1 := ⟨Int32.le_trans y3 (by rw [← y1]; exact k0), Int32.lt_of_lt_of_le k1 (by rw [y2]; exact y4)⟩
            have dj := Q7.2.1 p j (Int32.le_refl p) hab pj.1 j1 pj.2
            rw [(e2 _ (U.2.1 k kn.1 kn.2).1.1 (fun l l0 l1 => zUn_ne U (kin l l0 l1) kn (fun q => by
              rw [q] at l0 l1
              rw [← z1] at l0
              rw [← z2] at l1
              rcases dj with w | w
              · exact absurd (Int32.lt_of_lt_of_le l1 (Int32.le_trans w k0)) Int32.lt_irrefl
              · exact absurd (Int32.lt_of_lt_of_le k1 (Int32.le_trans w l0)) Int32.lt_irrefl))).1]
            exact old
        have Vs := zHv_skip Q6 d
        by_cases r0 : cp.1 = 0
        · rw [if_pos r0] at q1
          rw [if_pos (show ib.1 = 0 from x1.symm.trans r0)] at q2
          have q1 := zn_s q1 rfl
          have el : pt p.toNatClampNeg - pf p.toNatClampNeg = Q p.toNatClampNeg := by
            rw [z1, z2]
            exact (zap1 (h := 0) v1 v2 g8 ⟨g5, g7⟩ ⟨Int32.le_refl 0, Int32.le_trans (by decide) v2⟩ rfl).2.2.1
          rw [el] at q1
          by_cases l2 : Q p.toNatClampNeg < 2
          · rw [if_pos l2] at q1
            rw [if_neg (show ¬ 2 ≤ Q p.toNatClampNeg from Int32.not_le.mpr l2)] at q2
            refine hb2 _ _ _ _ ?_ q1 q2
            exact ⟨rfl, rfl, x2, x3.symm, S', Vs, Zs⟩
          · rw [if_neg l2] at q1
            have l2' : 2 ≤ Q p.toNatClampNeg := Int32.not_lt.mp l2
            rw [if_pos l2'] at q2
            have q1 := zn_s q1 rfl
            try rw [el] at q1
            obtain ⟨o18, h18, q1⟩ := zb_s q1
            obtain ⟨o22, h22, q1⟩ := zb_s q1
            obtain ⟨s1, s2, s3⟩ := zHv_split Q6 d l2' rfl rfl
            have ps28 : ps < 28 ∧ ps + 1 < 28 ∧ ps + 1 + 1 = ps + 2 := zPs2 s1 s2
            have e18 := zAddP ps28.1 h18
            rw [e18] at h22
            dsimp only at h22
            have e22 := zAddP ps28.2.1 h22
            rw [e22] at q1
            dsimp only at q1
            obtain ⟨-, q2⟩ := zg_s q2
            have q2 := zn_s q2 rfl
            have q2 := zn_s q2 rfl
            have q2 := zn_s q2 rfl
            obtain ⟨-, q2⟩ := zg_s q2
            have q2 := zn_s q2 rfl
            have ecd : cp.2.2.2.2.2.2 = cd := by
              rcases x6 with ⟨_, e, _⟩ | ⟨e, _⟩
              · exact e
              · exact absurd r0 e
            have Zp := zQu_split Q6 hab l2' rfl Q7 ⟨s1, s2⟩
            refine hb2 _ _ _ _ ?_ q1 q2
            refine ⟨rfl, ps28.2.2, x2, x3.symm, S', s3, ?_⟩
            show zQu (p + 1) (ps + 2) _ _ _ _ u.2 cp.2.2.2.2.2.2
            rw [ecd]
            exact Zp
        · rw [if_neg r0] at q1
          rw [if_neg (show ¬ ib.1 = 0 from fun q => r0 (x1.trans q))] at q2
          refine hb2 _ _ _ _ ?_ q1 q2
          exact ⟨rfl, rfl, x2, x3.symm, S', Vs, Zs⟩
    by_cases n0 : u.1 ≤ 0
    · rw [if_pos n0] at h1
      rw [if_pos (show n ≤ 0 by rw [← en]; exact n0)] at ho
      exact go 0 _ _ _ _ (zHv_none U.1.2) ⟨fun j j0 j1 => absurd j1 (Int32.not_lt.mpr j0), fun i j i0 i1 => absurd i1 (Int32.not_lt.mpr i0), fun j k j0 j1 => absurd j1 (Int32.not_lt.mpr j0)⟩ h1 ho
    · rw [if_neg n0] at h1
      rw [if_neg (show ¬ n ≤ 0 by rw [← en]; exact n0), ← en] at ho
      have n1 : 1 ≤ u.1 := zOne n0
      obtain ⟨ad, had, h1⟩ := zb_s h1
      have ea := zAddP (show (0 : Int32) < 28 by decide) had
      rw [ea] at h1
      dsimp only at h1
      rw [show (0 + 1 : Int32) = 1 by decide] at h1
      have j0' : ∀ j : Int32, 0 ≤ j → j < 1 → j = 0 := fun j q1 q2 => zNul q1 q2
      refine go 1 _ _ _ _ (zHv_one n1 U.1.2) ⟨fun j j0 j1 => ?_, fun i j i0 i1 j0 j1 ne => absurd ((j0' i i0 i1).trans (j0' j j0 j1).symm) ne, fun j k j0 j1 k0 k1 => ?_⟩ h1 ho
      · rw [j0' j j0 j1, zup (Int32.le_refl 0) (Int32.le_refl 0), zup (Int32.le_refl 0) (Int32.le_refl 0), zup (Int32.le_refl 0) (Int32.le_refl 0), zup (Int32.le_refl 0) (Int32.le_refl 0), if_pos rfl, if_pos rfl, if_pos rfl, if_pos rfl, Int32.zero_add]
        exact ⟨rfl, rfl⟩
      · rw [j0' j j0 j1, zup (Int32.le_refl 0) (Int32.le_refl 0), if_pos rfl] at k0 k1
        exact Ucd k k0 k1
  · rw [if_neg c] at ho
    obtain ⟨-, ho⟩ := zg_s ho
    have kb : (0 ≤ k ∧ k < 100000) ∧ k ≤ 14 ∧ k ≤ 1200 ∧ 0 ≤ k + 1 ∧ k + 1 ≤ mFn := ⟨(zN14 H1.1 (Int32.not_le.mp c) f14.2).1, (zN14 H1.1 (Int32.not_le.mp c) f14.2).2.2⟩
    by_cases e : mHc k.toNatClampNeg = 0
    · rw [if_pos e] at ho
      obtain ⟨-, ho⟩ := zg_s ho
      refine hb _ _ ?_ ho
      refine ⟨kb.2.2.2, ?_, fun j j0 j1 j2 => ?_⟩
      · show n + 1 = zHc mHc (k + 1).toNatClampNeg
        rw [H2]
        exact (zct_t (b := fun k => decide (mHc k = 0)) H1.1 kb.2.2.1 (decide_eq_true e)).symm
      · have nk : 0 ≤ zHc mHc k.toNatClampNeg := (zct_b32 (b := fun k => decide (mHc k = 0)) H1.1 kb.2.1).1
        show upd wr n.toNatClampNeg k (zHc mHc j.toNatClampNeg).toNatClampNeg = j
        rcases zlt1 kb.1 j1 with q | q
        · rw [q, H2, zup nk nk, if_pos rfl]
        · have nj : 0 ≤ zHc mHc j.toNatClampNeg := (zct_b32 (b := fun k => decide (mHc k = 0)) j0 (Int32.le_trans (Int32.le_of_lt q) kb.2.1)).1
          have lt : zHc mHc j.toNatClampNeg < zHc mHc k.toNatClampNeg := zct_lt (b := fun k => decide (mHc k = 0)) j0 q kb.2.1 (decide_eq_true j2)
          rw [H2, zup nk nj, if_neg (fun w => by rw [w] at lt; exact absurd lt Int32.lt_irrefl)]
          exact H3 j j0 q j2
    · rw [if_neg e] at ho
      refine hb _ _ ?_ ho
      refine ⟨kb.2.2.2, ?_, fun j j0 j1 j2 => ?_⟩
      · show n = zHc mHc (k + 1).toNatClampNeg
        rw [H2]
        exact (zct_f (b := fun k => decide (mHc k = 0)) H1.1 kb.2.2.1 (fun q => e (of_decide_eq_true q))).symm
      · rcases zlt1 kb.1 j1 with q | q
        · rw [q] at j2; exact absurd j2 e
        · exact H3 j j0 q j2
/-! BY HALVES: the first CHOICE, all FORMATS; what is kept of it -/
noncomputable def zHR (cN cF gc : Int32) (gof gfx : Nat → Int32) (x : Int32 × Int32 × Int32 × Int32 × Int32 × Int32 × (Nat → Int32) × (Nat → Int32) × Int32 × Int32 × (Nat → Int64) × (Nat → Int32) × (Nat → Int32) × (Nat → Int32)) (y : Int32 × Int32 × Int32 × Int32 × Int32 × Int32 × Int32 × (Nat → Int32) × (Nat → Int32) × (Nat → Int32) × (Nat → Int64) × (Nat → Int64) × (Nat → Int64) × (Nat → Int32) × (Nat → Int32) × (Nat → Int32) × (Nat → Int32)) : Prop := x.1 = y.1 ∧ (y.1 = 0 ∨ y.1 = 1) ∧ (y.1 = 1 → x.2.1 = y.2.2.2.2.2.1 ∧ x.2.2.1 = y.2.2.2.2.2.2.1 ∧ zCh cN cF gof x.2.2.2.2.2.2.1 y.2.2.2.2.2.2.2.2.2.2.2.2.2.1 ∧ ∀ g : Int32, 0 ≤ g → g < gc → ¬ gfx g.toNatClampNeg = (-1) → x.2.2.2.2.2.2.1 g.toNatClampNeg = gfx g.toNatClampNeg)
set_option maxHeartbeats 16000000 in
theorem zHalve {cF cc cN inp gc gfr gcl mHh mFa mFw mSc mTs vSt vPs vPr vTs vFa vRs : Int32} {nF nN stp mst prc al made amt op fx jn lets gof gfx gld rwd hand mF mN mCst mNF mNN mS mM mC mW mO m1 m2 mX mG mH mTr mFr mSo mHc mRw mPf mPm vRw vCd vUn vPf vPt : Nat → Int32} {rlo rhi mA mB mLe mGe mEr vRe : Nat → Int64} {mWb : Int64} {x : Int32 × Int32 × Int32 × Int32 × Int32 × Int32 × (Nat → Int32) × (Nat → Int32) × Int32 × Int32 × (Nat → Int64) × (Nat → Int32) × (Nat → Int32) × (Nat → Int32)} {y : Int32 × Int32 × Int32 × Int32 × Int32 × Int32 × Int32 × (Nat → Int32) × (Nat → Int32) × (Nat → Int32) × (Nat → Int64) × (Nat → Int64) × (Nat → Int64) × (Nat → Int32) × (Nat → Int32) × (Nat → Int32) × (Nat → Int32)} (T : zTN cF cc cN inp nF nN stp mst prc al made amt op fx jn lets mF mN mNF mNN mS mM mC mW mCst mO m1 m2 mX mG mA mB) (G : zGp cN gc gfr gcl gof gfx gld fx mG) (R : zRN cN (-1) 0 op made amt rwd rlo rhi) (H : zHN cN cF gcl mHh gof gfx hand mH) (cl : 0 < cN ∧ gcl = 0) (h1 : fn_X3_goByHalves 0 vSt vPs vPr vTs cF cc cN gc gcl stp vRw gfx vCd vFa vRs gof op made vRe amt rlo rhi mst al prc vUn vPf vPt = some x) (h2 : fn_X12_halve mWb mHh mFa mFw mSc mTs mN mG mX mFr mF mS mH mTr mHc mO m1 m2 mLe mA mB mGe mEr mM mW mSo mCst mC mRw mPf mPm = some y) : zHR cN cF gc gof gfx x y := by
  have hN := T.2.1
  have gb := zRk_b (G := mG) (p := cN) hN.2.1 hN.2.2
  rw [← G.1.1] at gb
  have gc14 : 0 ≤ gc ∧ gc ≤ 14 := ⟨gb.1, Int32.le_trans gb.2 hN.2.2⟩
  have gf := zGfr T G
  have cF0 : 0 < cF := T.2.2.2.2.1 cl.1
  have cF4 := T.1.2.2
  obtain ⟨C, Dx⟩ := H.2.2 cl.1 cl.2
  unfold fn_X3_goByHalves at h1
  unfold fn_X12_halve at h2
  rw [zHasC hN.2.1, zb_some, if_neg (by rw [zif1]; exact fun q => q cl), if_pos rfl] at h1
  obtain ⟨fr, hfr, h2⟩ := zb_s h2
  rw [zIsTh ⟨hN.1, hN.2.1⟩ H, zb_some, if_neg (by rw [zif1]; exact fun q => q cl)] at h2
  have lf : zFL cN fr.1 gfx mG fr.2 := zLaysFree T G hfr
  have ef : zFg gfx gc.toNatClampNeg = fr.1 := by rw [lf.1, gf.2]; exact G.2.symm
  have f14 : 0 ≤ fr.1 ∧ fr.1 ≤ 14 := by rw [lf.1, gf.2]; exact gf.1
  obtain ⟨fin, hfin, h1⟩ := zb_s h1
  obtain ⟨fi2, hfi2, h2⟩ := zb_s h2
  obtain ⟨efin, fin0, fin1⟩ := zFinest T cF0 hfin hfi2
  subst efin
  obtain ⟨r0, hr0, h1⟩ := zb_s h1
  have rr := zFillF gc14 hr0
  obtain ⟨k9, cd0, h1, hcd⟩ := zCopyK (c := 14) (so := fun _ => vp_nar .boolean 0) ⟨by decide, by decide⟩ h1
  try dsimp only at h1
  have hcd0 : ∀ i : Int32, 0 ≤ i → i < 14 → cd0 i.toNatClampNeg = 0 := fun i i0 i1 => (hcd i i0 i1).trans znar.2
  obtain ⟨rk, hrk, h1⟩ := zb_s h1
  obtain ⟨p, hp, h1⟩ := zb_s h1
  obtain ⟨th, hth, h2⟩ := zb_s h2
  have tr := zTrH hN hth
  rw [zn01.1, T.1.1] at h2
  clear hfr hfin hfi2 hr0 hth hcd
  have gr : ∀ i : Int32, 0 ≤ i → i < cN → (0 ≤ gof i.toNatClampNeg ∧ gof i.toNatClampNeg < 14) ∧ gof i.toNatClampNeg < gc := by
    intro i i0 i1
    obtain ⟨l1, l2, l3⟩ := T.2.2.2.2.2.2.2.2.1 i i0 i1
    have b1 := zRk_lt (G := mG) l1 (Int32.lt_of_le_of_lt l2 i1) hN.2.2 l3
    rw [← G.1.1, ← G.1.2.1 i i0 i1] at b1
    exact ⟨zGofR hN.2.2 T.2.2.2.2.2.2.2.2 G ⟨i0, i1⟩, b1⟩
  refine zl_ip (P := fun y : Int32 × Int32 × Int32 × Int32 × Int32 × Int32 × Int32 × (Nat → Int32) × (Nat → Int32) × (Nat → Int32) × (Nat → Int64) × (Nat → Int64) × (Nat → Int64) × (Nat → Int32) × (Nat → Int32) × (Nat → Int32) × (Nat → Int32) => zHR cN cF gc gof gfx x y) (fun s => (0 ≤ s.1 ∧ s.1 ≤ fr.1) ∧ (∀ i : Int32, 0 ≤ i → i < cN → (gfx (gof i.toNatClampNeg).toNatClampNeg = (-1) → zFg gfx (gof i.toNatClampNeg).toNatClampNeg < s.1 → s.2.1 i.toNatClampNeg = fin) ∧ (¬ gfx (gof i.toNatClampNeg).toNatClampNeg = (-1) → s.2.1 i.toNatClampNeg = mH i.toNatClampNeg)) ∧ (∀ k : Int32, 0 ≤ k → k < s.1 → s.2.2 k.toNatClampNeg = 0)) ?_ _ _ _ ⟨⟨Int32.le_refl 0, f14.1⟩, fun i i0 i1 => ⟨fun q w => ?_, fun _ => tr i i0 i1⟩, fun k k0 k1 => absurd k1 (Int32.not_lt.mpr k0)⟩ h2
  · intro s back o ⟨H1, H2, H3⟩ hb ho
    obtain ⟨k, t, hc⟩ := s
    dsimp only at H1 H2 H3 ho
    by_cases c : fr.1 ≤ k
    · rw [if_pos c] at ho
      clear hb
      rw [Int32.le_antisymm H1.2 c] at H2 H3
      have C0 : zCh cN cF gof r0 t := by
        intro i i0 i1
        obtain ⟨a1, a2⟩ := gr i i0 i1
        refine ⟨a1, ?_⟩
        rw [rr _ a1.1 a2]
        by_cases q : gfx (gof i.toNatClampNeg).toNatClampNeg = (-1)
        · have l : zFg gfx (gof i.toNatClampNeg).toNatClampNeg < fr.1 := by rw [← ef]; exact zct_lt (b := fun g => decide (gfx g = (-1))) a1.1 a2 gc14.2 (decide_eq_true q)
          rw [if_pos q, (H2 i i0 i1).1 q l]
          exact ⟨rfl, fin0, fin1⟩
        · obtain ⟨-, c2, c3, c4⟩ := C i i0 i1
          rw [if_neg q, (H2 i i0 i1).2 q, ← Dx i i0 i1 q, c2]
          exact ⟨rfl, c3, c4⟩
      obtain ⟨ps, hps, ho⟩ := zb_s ho
      have pe := zPassEq (wd := rwd) T (zRN_1 R) (Or.inl rfl) C0 hrk hps
      by_cases z : rk.1 = 0
      · rw [if_pos (show ps.1 = 0 from pe.1.symm.trans z)] at ho
        rw [← Option.some.inj ho]
        obtain ⟨B, eB, h1⟩ := zl_g h1
        have h1 := zl_s eB h1
        try dsimp only at h1
        rw [if_pos z] at h1
        obtain ⟨-, h1⟩ := zt_s h1
        rw [← Option.some.inj h1]
        exact ⟨z, Or.inl rfl, fun q => absurd (show (0 : Int32) = 1 from q) (by decide)⟩
      · have z1 : rk.1 = 1 := by
          rcases pe.2.2.2 with ⟨w, _⟩ | ⟨w, _⟩
          · exact w
          · exact absurd w z
        rw [if_neg (show ¬ ps.1 = 0 from fun q => z (pe.1.trans q))] at ho
        obtain ⟨kt, hkt, ho⟩ := zb_s ho
        obtain ⟨kt1, kt2⟩ := zKeepsT hN hkt
        have ep : p = kt.1 := zPriceEq T C0 hp kt1
        have S0 : zSF cN cF gc fin gof gfx r0 kt.2 cd0 hc := by
          refine ⟨zCh_c C0 kt2, fun g g0 g1 g2 => ⟨fun _ => ?_, fun _ => hcd0 g g0 (Int32.lt_of_lt_of_le g1 gc14.2)⟩, fun g g0 g1 g2 _ => ?_, fun g g0 g1 g2 => ?_⟩
          · refine H3 _ (zct_b32 (b := fun g => decide (gfx g = (-1))) g0 (Int32.le_trans (Int32.le_of_lt g1) gc14.2)).1 ?_
            rw [← ef]
            exact zct_lt (b := fun g => decide (gfx g = (-1))) g0 g1 gc14.2 (decide_eq_true g2)
          · rw [rr g g0 g1, if_pos g2]
          · rw [rr g g0 g1, if_neg g2]
        refine zl_ip2 (P := fun (x : Int32 × Int32 × Int32 × Int32 × Int32 × Int32 × (Nat → Int32) × (Nat → Int32) × Int32 × Int32 × (Nat → Int64) × (Nat → Int32) × (Nat → Int32) × (Nat → Int32)) (y : Int32 × Int32 × Int32 × Int32 × Int32 × Int32 × Int32 × (Nat → Int32) × (Nat → Int32) × (Nat → Int32) × (Nat → Int64) × (Nat → Int64) × (Nat → Int64) × (Nat → Int32) × (Nat → Int32) × (Nat → Int32) × (Nat → Int32)) => zHR cN cF gc gof gfx x y) (fun s t => (0 ≤ s.1 ∧ s.1 ≤ cF) ∧ s.1 = t.1 ∧ s.2.1 = t.2.2.2.1 ∧ s.2.2.1 = t.2.2.2.2.1 ∧ zSF cN cF gc fin gof gfx s.2.2.2.2.2.2.2.2.2.2.1 t.2.2.2.2.2.2.2.2.2.1 s.2.2.2.2.2.2.1 t.2.2.2.2.2.2.2.2.2.2.1) ?_ _ _ _ _ _ _ ?_ h1 ho
        rotate_left
        · exact ⟨⟨Int32.le_refl 0, Int32.le_of_lt cF0⟩, rfl, ep, rfl, S0⟩
        intro s t k1 k2 o1 o2 ⟨Q1, Q2, Q3, Q4, Q5⟩ hb2 q1 q2
        obtain ⟨f, pr, ts, pt0, fa, rs, cd, un, pf, pt, row, re⟩ := s
        obtain ⟨f', fa2, fw2, sc, ts2, le2, ge2, tr2, em2, so, hc2, wr2, pf2, pm2⟩ := t
        dsimp only at Q1 Q2 Q3 Q4 Q5 q1 q2
        subst Q2 Q3 Q4
        rw [if_neg z] at q1
        by_cases d : cF ≤ f
        · rw [if_pos d] at q1 q2
          obtain ⟨-, q1⟩ := zt_s q1
          rw [← Option.some.inj q1, ← Option.some.inj q2]
          exact ⟨z1, Or.inr rfl, fun _ => ⟨rfl, rfl, Q5.1, Q5.2.2.2⟩⟩
        · rw [if_neg d] at q1 q2
          have fb : f < cF ∧ 0 ≤ f + 1 ∧ f + 1 ≤ cF := ⟨Int32.not_le.mp d, (zN14 Q1.1 (Int32.not_le.mp d) (Int32.le_trans T.1.2.2 (by decide))).2.2.2.2⟩
          by_cases e : f = fin
          · rw [if_pos e] at q1 q2
            refine hb2 _ _ _ _ ?_ q1 q2
            exact ⟨fb.2, rfl, rfl, rfl, Q5⟩
          · rw [if_neg e] at q1 q2
            obtain ⟨hw, hhw, q1⟩ := zb_s q1
            obtain ⟨hy, hhy, q2⟩ := zb_s q2
            obtain ⟨y1, y2, y3⟩ := zHalveW T G R lf ⟨Q1.1, fb.1⟩ Q5 rfl rfl hhw hhy
            refine hb2 _ _ _ _ ?_ q1 q2
            exact ⟨fb.2, rfl, y1, y2, y3⟩
    · rw [if_neg c] at ho
      obtain ⟨-, ho⟩ := zg_s ho
      obtain ⟨t2, ht2, ho⟩ := zb_s ho
      have tg := zTrG hN ht2
      have kf : k < fr.1 := Int32.not_le.mp c
      have kb : (0 ≤ k ∧ k < 100000) ∧ 0 ≤ k + 1 ∧ k + 1 ≤ fr.1 := ⟨(zN14 H1.1 kf f14.2).1, (zN14 H1.1 kf f14.2).2.2.2.2⟩
      -- the k-th FREE GROUP
      obtain ⟨gn, n1, n2, n3⟩ := zct_sj (b := fun g => decide (gfx g = (-1))) gc.toNatClampNeg (by have := z14' gc14.1 gc14.2; omega) k H1.1 (by rw [show zct (fun g => decide (gfx g = (-1))) gc.toNatClampNeg = fr.1 from ef]; exact kf)
      obtain ⟨a1, a2, a3⟩ := zof gc14.1 n1
      have fg : gfx (Int32.ofNat gn).toNatClampNeg = (-1) := by rw [a3]; exact of_decide_eq_true n2
      have ek : zFg gfx (Int32.ofNat gn).toNatClampNeg = k := by rw [a3]; exact n3
      obtain ⟨j, j0, j1, j2, j3⟩ := zLead hN.2 G a1 a2
      have ej : fr.2 k.toNatClampNeg = j := by
        have l := lf.2 j j0 j1 j2 (by rw [j3]; exact fg)
        have e9 : zFg gfx (zRk mG j.toNatClampNeg).toNatClampNeg = zFk gfx mG j.toNatClampNeg := zFreeC gfx mG j.toNatClampNeg (z14' j0 (Int32.le_trans (Int32.le_of_lt j1) hN.2.2))
        rw [← e9, j3, ek] at l
        exact l
      have gj : gof j.toNatClampNeg = Int32.ofNat gn := by rw [G.1.2.1 j j0 j1, j2, j3]
      have same : ∀ i : Int32, 0 ≤ i → i < cN → (mG i.toNatClampNeg = fr.2 k.toNatClampNeg ↔ gof i.toNatClampNeg = Int32.ofNat gn) := by
        intro i i0 i1
        have e := zGp_eq hN.2.2 T.2.2.2.2.2.2.2.2 G ⟨i0, i1⟩ ⟨j0, j1⟩
        rw [gj, j2] at e
        rw [ej]
        exact e.symm
      refine hb _ _ ?_ ho
      refine ⟨kb.2, fun i i0 i1 => ⟨fun q w => ?_, fun q => ?_⟩, fun l l0 l1 => ?_⟩
      · show t2 i.toNatClampNeg = fin
        rw [tg i i0 i1]
        by_cases v : mG i.toNatClampNeg = fr.2 k.toNatClampNeg
        · rw [if_pos v]
        · rw [if_neg v]
          rcases zlt1 kb.1 w with u | u
          · obtain ⟨b1, b2⟩ := gr i i0 i1
            exact absurd ((same i i0 i1).mpr (zFg_ne gc14.2 ⟨b1.1, b2⟩ ⟨a1, a2⟩ q fg (u.trans ek.symm))) v
          · exact (H2 i i0 i1).1 q u
      · show t2 i.toNatClampNeg = mH i.toNatClampNeg
        rw [tg i i0 i1, if_neg (fun v => q (by rw [(same i i0 i1).mp v]; exact fg))]
        exact (H2 i i0 i1).2 q
      · show upd hc k.toNatClampNeg (vp_nar .boolean 0) l.toNatClampNeg = 0
        rw [zup H1.1 l0]
        rcases zlt1 kb.1 l1 with u | u
        · rw [if_pos u]; exact znar.2
        · rw [if_neg (fun v => by rw [v] at u; exact absurd u Int32.lt_irrefl)]; exact H3 l l0 u
  · exact absurd w (Int32.not_lt.mpr (zct_b32 (b := fun g => decide (gfx g = (-1))) (gr i i0 i1).1.1 (Int32.le_of_lt (gr i i0 i1).1.2)).1)
/-- what is kept of it, while the TASK stays: a run of the class's own -/
noncomputable def zLC (cF cc cN gc gcl : Int32) (gof gfx stp mst prc al made amt op : Nat → Int32) (rlo rhi : Nat → Int64) (rd st pr ts : Int32) (row : Nat → Int32) : Prop := rd = 0 ∨ ∃ (vSt vPs vPr vTs vFa vRs : Int32) (vRw vCd vUn vPf vPt : Nat → Int32) (vRe : Nat → Int64) (o : Int32 × Int32 × Int32 × Int32 × Int32 × Int32 × (Nat → Int32) × (Nat → Int32) × Int32 × Int32 × (Nat → Int64) × (Nat → Int32) × (Nat → Int32) × (Nat → Int32)), fn_X3_goByHalves 0 vSt vPs vPr vTs cF cc cN gc gcl stp vRw gfx vCd vFa vRs gof op made vRe amt rlo rhi mst al prc vUn vPf vPt = some o ∧ st = o.1 ∧ pr = o.2.1 ∧ ts = o.2.2.1 ∧ row = o.2.2.2.2.2.2.1
theorem zGoS {cF cc cN gc gcl vSt vPs vPr vTs vFa vRs : Int32} {stp mst prc al made amt op gof gfx vRw vCd vUn vPf vPt : Nat → Int32} {rlo rhi vRe : Nat → Int64} {x : Int32 × Int32 × Int32 × Int32 × Int32 × Int32 × (Nat → Int32) × (Nat → Int32) × Int32 × Int32 × (Nat → Int64) × (Nat → Int32) × (Nat → Int32) × (Nat → Int32)} (hN : 0 ≤ cN) (cl : 0 < cN ∧ gcl = 0) (h1 : fn_X3_goByHalves 0 vSt vPs vPr vTs cF cc cN gc gcl stp vRw gfx vCd vFa vRs gof op made vRe amt rlo rhi mst al prc vUn vPf vPt = some x) : x.2.2.2.2.1 = x.1 := by
  unfold fn_X3_goByHalves at h1
  rw [zHasC hN, zb_some, if_neg (by rw [zif1]; exact fun q => q cl), if_pos rfl] at h1
  obtain ⟨fin, -, h1⟩ := zb_s h1
  obtain ⟨r0, -, h1⟩ := zb_s h1
  obtain ⟨k9, cd0, h1, -⟩ := zCopyK (c := 14) (so := fun _ => vp_nar .boolean 0) ⟨by decide, by decide⟩ h1
  try dsimp only at h1
  obtain ⟨rk, -, h1⟩ := zb_s h1
  obtain ⟨p, -, h1⟩ := zb_s h1
  refine zl_ip (P := fun x : Int32 × Int32 × Int32 × Int32 × Int32 × Int32 × (Nat → Int32) × (Nat → Int32) × Int32 × Int32 × (Nat → Int64) × (Nat → Int32) × (Nat → Int32) × (Nat → Int32) => x.2.2.2.2.1 = x.1) (fun _ => True) ?_ _ _ _ trivial h1
  intro s back o _ hb ho
  by_cases z : rk.1 = 0
  · rw [if_pos z] at ho
    obtain ⟨-, ho⟩ := zt_s ho
    rw [← Option.some.inj ho]
  · rw [if_neg z] at ho
    by_cases d : cF ≤ s.1
    · rw [if_pos d] at ho
      obtain ⟨-, ho⟩ := zt_s ho
      rw [← Option.some.inj ho]
    · rw [if_neg d] at ho
      by_cases e : s.1 = fin
      · rw [if_pos e] at ho
        exact hb _ _ trivial ho
      · rw [if_neg e] at ho
        obtain ⟨w, -, ho⟩ := zb_s ho
        exact hb _ _ trivial ho
theorem zGo {cF cc cN gc gcl vRd vSt vPs vPr vTs vFa vRs : Int32} {stp mst prc al made amt op gof gfx vRw vCd vUn vPf vPt : Nat → Int32} {rlo rhi vRe : Nat → Int64} {x : Int32 × Int32 × Int32 × Int32 × Int32 × Int32 × (Nat → Int32) × (Nat → Int32) × Int32 × Int32 × (Nat → Int64) × (Nat → Int32) × (Nat → Int32) × (Nat → Int32)} (hN : 0 ≤ cN) (K : zLC cF cc cN gc gcl gof gfx stp mst prc al made amt op rlo rhi vRd vSt vPr vTs vRw) (h1 : fn_X3_goByHalves vRd vSt vPs vPr vTs cF cc cN gc gcl stp vRw gfx vCd vFa vRs gof op made vRe amt rlo rhi mst al prc vUn vPf vPt = some x) : zLC cF cc cN gc gcl gof gfx stp mst prc al made amt op rlo rhi x.2.2.2.1 x.2.2.2.2.1 x.2.1 x.2.2.1 x.2.2.2.2.2.2.1 ∧ (¬ (0 < cN ∧ gcl = 0) ∧ x.1 = 0 ∨ (0 < cN ∧ gcl = 0) ∧ zLC cF cc cN gc gcl gof gfx stp mst prc al made amt op rlo rhi 1 x.1 x.2.1 x.2.2.1 x.2.2.2.2.2.2.1) := by
  by_cases cl : 0 < cN ∧ gcl = 0
  · by_cases r : vRd = 0
    · rw [r] at h1
      have e := zGoS hN cl h1
      have k : ∀ v : Int32, zLC cF cc cN gc gcl gof gfx stp mst prc al made amt op rlo rhi v x.1 x.2.1 x.2.2.1 x.2.2.2.2.2.2.1 := fun v => Or.inr ⟨_, _, _, _, _, _, _, _, _, _, _, _, x, h1, rfl, rfl, rfl, rfl⟩
      exact ⟨by rw [e]; exact k _, Or.inr ⟨cl, k 1⟩⟩
    · have K1 : ∀ v : Int32, zLC cF cc cN gc gcl gof gfx stp mst prc al made amt op rlo rhi v vSt vPr vTs vRw := fun v => Or.inr (K.resolve_left r)
      unfold fn_X3_goByHalves at h1
      rw [zHasC hN, zb_some, if_neg (by rw [zif1]; exact fun q => q cl), if_neg r] at h1
      obtain ⟨-, h1⟩ := zt_s h1
      rw [← Option.some.inj h1]
      exact ⟨K1 _, Or.inr ⟨cl, K1 1⟩⟩
  · unfold fn_X3_goByHalves at h1
    rw [zHasC hN, zb_some, if_pos (by rw [zif1]; exact cl)] at h1
    rw [← Option.some.inj h1]
    exact ⟨K, Or.inl ⟨cl, rfl⟩⟩
/-- what is kept, against the reference's own -/
theorem zLC_eq {cF cc cN inp gc gfr gcl mHh mFa mFw mSc mTs : Int32} {nF nN stp mst prc al made amt op fx jn lets gof gfx gld rwd hand mF mN mCst mNF mNN mS mM mC mW mO m1 m2 mX mG mH mTr mFr mSo mHc mRw mPf mPm : Nat → Int32} {rlo rhi mA mB mLe mGe mEr : Nat → Int64} {mWb : Int64} {st pr ts : Int32} {row : Nat → Int32} {y : Int32 × Int32 × Int32 × Int32 × Int32 × Int32 × Int32 × (Nat → Int32) × (Nat → Int32) × (Nat → Int32) × (Nat → Int64) × (Nat → Int64) × (Nat → Int64) × (Nat → Int32) × (Nat → Int32) × (Nat → Int32) × (Nat → Int32)} (T : zTN cF cc cN inp nF nN stp mst prc al made amt op fx jn lets mF mN mNF mNN mS mM mC mW mCst mO m1 m2 mX mG mA mB) (G : zGp cN gc gfr gcl gof gfx gld fx mG) (R : zRN cN (-1) 0 op made amt rwd rlo rhi) (H : zHN cN cF gcl mHh gof gfx hand mH) (cl : 0 < cN ∧ gcl = 0) (K : zLC cF cc cN gc gcl gof gfx stp mst prc al made amt op rlo rhi 1 st pr ts row) (h2 : fn_X12_halve mWb mHh mFa mFw mSc mTs mN mG mX mFr mF mS mH mTr mHc mO m1 m2 mLe mA mB mGe mEr mM mW mSo mCst mC mRw mPf mPm = some y) : st = y.1 ∧ (y.1 = 0 ∨ y.1 = 1) ∧ (y.1 = 1 → pr = y.2.2.2.2.2.1 ∧ ts = y.2.2.2.2.2.2.1 ∧ zCh cN cF gof row y.2.2.2.2.2.2.2.2.2.2.2.2.2.1 ∧ ∀ g : Int32, 0 ≤ g → g < gc → ¬ gfx g.toNatClampNeg = (-1) → row g.toNatClampNeg = gfx g.toNatClampNeg) := by
  rcases K with K | ⟨a1, a2, a3, a4, a5, a6, b1, b2, b3, b4, b5, b6, o, ho, e1, e2, e3, e4⟩
  · exact absurd K (by decide)
  · obtain ⟨z1, z2, z3⟩ := zHalve T G R H cl ho h2
    rw [e1, e2, e3, e4]
    exact ⟨z1, z2, z3⟩
theorem zHalfNo {cF cc cN inp gcl mHh mFa mFw mSc mTs : Int32} {nF nN stp mst prc al made amt op fx jn lets gof gfx hand mF mN mCst mNF mNN mS mM mC mW mO m1 m2 mX mG mH mTr mFr mSo mHc mRw mPf mPm : Nat → Int32} {mA mB mLe mGe mEr : Nat → Int64} {mWb : Int64} {y : Int32 × Int32 × Int32 × Int32 × Int32 × Int32 × Int32 × (Nat → Int32) × (Nat → Int32) × (Nat → Int32) × (Nat → Int64) × (Nat → Int64) × (Nat → Int64) × (Nat → Int32) × (Nat → Int32) × (Nat → Int32) × (Nat → Int32)} (T : zTN cF cc cN inp nF nN stp mst prc al made amt op fx jn lets mF mN mNF mNN mS mM mC mW mCst mO m1 m2 mX mG mA mB) (H : zHN cN cF gcl mHh gof gfx hand mH) (cl : ¬ (0 < cN ∧ gcl = 0)) (h2 : fn_X12_halve mWb mHh mFa mFw mSc mTs mN mG mX mFr mF mS mH mTr mHc mO m1 m2 mLe mA mB mGe mEr mM mW mSo mCst mC mRw mPf mPm = some y) : y.1 = 0 := by
  have hN := T.2.1
  unfold fn_X12_halve at h2
  obtain ⟨fr, -, h2⟩ := zb_s h2
  rw [zIsTh ⟨hN.1, hN.2.1⟩ H, zb_some, if_pos (by rw [zif1]; exact cl)] at h2
  rw [← Option.some.inj h2]
set_option maxHeartbeats 4000000 in
theorem zeq_halves {cF cc cN inp gc gfr gcl mHh mFn mWn mFa mFw mSc mTs vRd vSt vPs vPr vTs vFa vRs : Int32} {nF nN stp mst prc al made amt op fx jn lets gof gfx gld rwd hand mF mN mCst mNF mNN mS mM mC mW mO m1 m2 mX mG mH mTr mFr mSo mHc mRw mPf mPm vRw vCd vUn vPf vPt : Nat → Int32} {rlo rhi mA mB mLe mGe mEr vRe : Nat → Int64} {mWb : Int64} {p1 : Int32} {x : Int32 × Int32 × Int32 × Int32 × Int32 × Int32 × (Nat → Int32) × (Nat → Int32) × Int32 × Int32 × (Nat → Int64) × (Nat → Int32) × (Nat → Int32) × (Nat → Int32)} {y : Int32 × Int32 × Int32 × Int32 × Int32 × Int32 × Int32 × (Nat → Int32) × (Nat → Int32) × (Nat → Int32) × (Nat → Int64) × (Nat → Int64) × (Nat → Int64) × (Nat → Int32) × (Nat → Int32) × (Nat → Int32) × (Nat → Int32)} (T : zTN cF cc cN inp nF nN stp mst prc al made amt op fx jn lets mF mN mNF mNN mS mM mC mW mCst mO m1 m2 mX mG mA mB) (G : zGp cN gc gfr gcl gof gfx gld fx mG) (R : zRN cN (-1) 0 op made amt rwd rlo rhi) (H : zHN cN cF gcl mHh gof gfx hand mH) (K : zLC cF cc cN gc gcl gof gfx stp mst prc al made amt op rlo rhi vRd vSt vPr vTs vRw) (h1 : fn_X11_halves p1 vRd vSt vPs vPr vTs cF cc cN gc gcl stp vRw gfx vCd vFa vRs gof op made vRe amt rlo rhi mst al prc vUn vPf vPt = some x) (h2 : fn_X12_halves p1 mFn mWn mWb mHh mFa mFw mSc mTs mN mG mX mFr mF mS mH mTr mHc mO m1 m2 mLe mA mB mGe mEr mM mW mSo mCst mC mRw mPf mPm = some y) : x.1 = y.1 := by
  have hN := T.2.1
  unfold fn_X11_halves at h1
  unfold fn_X12_halves at h2
  obtain ⟨a, ha, h1⟩ := zb_s h1
  obtain ⟨-, ga⟩ := zGo hN.2.1 K ha
  obtain ⟨j, ej, h2⟩ := zj_g h2
  have no : a.1 = 0 → x.1 = (-1) := by
    intro z
    rw [if_pos z] at h1
    rw [← Option.some.inj h1]
  have go : (p1 = (-1) ∨ p1 = (-2) ∨ (0 ≤ p1 ∧ p1 < cN)) → j () = some y → x.1 = y.1 := by
    intro hp hj
    have hj := zj_s ej hj
    obtain ⟨b, hb, hj⟩ := zb_s hj
    rcases ga with ⟨g1, g2⟩ | ⟨g1, g2⟩
    · rw [if_pos (zHalfNo T H g1 hb)] at hj
      rw [no g2, ← Option.some.inj hj]
    · obtain ⟨z1, z2, z3⟩ := zLC_eq T G R H g1 g2 hb
      rcases z2 with z | z
      · rw [if_pos z] at hj
        rw [no (z1.trans z), ← Option.some.inj hj]
      · obtain ⟨w1, w2, w3, -⟩ := z3 z
        have a0 : ¬ a.1 = 0 := by rw [z1, z]; decide
        rw [if_neg (show ¬ b.1 = 0 by rw [z]; decide)] at hj
        rw [if_neg a0] at h1
        by_cases e2 : p1 = (-2)
        · have e1 : ¬ p1 = (-1) := by rw [e2]; decide
          rw [if_pos e2] at h1
          rw [if_neg e1, if_pos e2] at hj
          rw [← Option.some.inj h1, ← Option.some.inj hj]
          exact w2
        · rw [if_neg e2] at h1
          by_cases e1 : p1 = (-1)
          · rw [if_pos e1] at h1 hj
            rw [← Option.some.inj h1, ← Option.some.inj hj]
            exact w1
          · have hi : 0 ≤ p1 ∧ p1 < cN := (hp.resolve_left e1).resolve_left e2
            rw [if_neg e1, zHasN, zb_some, if_neg (by rw [zif1]; exact fun q => q hi), zFmtOf hN.2.2 w3 hi, zb_some] at h1
            rw [if_neg e1, if_neg e2] at hj
            obtain ⟨-, hj⟩ := zg_s hj
            rw [← Option.some.inj h1, ← Option.some.inj hj]
  by_cases e1 : p1 = (-1)
  · rw [if_pos e1] at h2
    exact go (Or.inl e1) h2
  · rw [if_neg e1] at h2
    by_cases e2 : p1 = (-2)
    · rw [if_pos e2] at h2
      exact go (Or.inr (Or.inl e2)) h2
    · rw [if_neg e2, zIsNum (by rw [hN.1]; exact hN.2.1), zb_some, hN.1] at h2
      by_cases hi : 0 ≤ p1 ∧ p1 < cN
      · rw [if_neg (by rw [zif1]; exact fun q => q hi)] at h2
        exact go (Or.inr (Or.inr hi)) h2
      · rw [if_pos (by rw [zif1]; exact hi)] at h2
        rw [← Option.some.inj h2]
        by_cases a0 : a.1 = 0
        · exact no a0
        · rw [if_neg a0, if_neg e2, if_neg e1, zHasN, zb_some, if_pos (by rw [zif1]; exact hi)] at h1
          rw [← Option.some.inj h1]
theorem zlc_halves {cF cc cN gc gcl vRd vSt vPs vPr vTs vFa vRs : Int32} {stp mst prc al made amt op gof gfx vRw vCd vUn vPf vPt : Nat → Int32} {rlo rhi vRe : Nat → Int64} {p1 : Int32} {x : Int32 × Int32 × Int32 × Int32 × Int32 × Int32 × (Nat → Int32) × (Nat → Int32) × Int32 × Int32 × (Nat → Int64) × (Nat → Int32) × (Nat → Int32) × (Nat → Int32)} (hN : 0 ≤ cN) (K : zLC cF cc cN gc gcl gof gfx stp mst prc al made amt op rlo rhi vRd vSt vPr vTs vRw) (h1 : fn_X11_halves p1 vRd vSt vPs vPr vTs cF cc cN gc gcl stp vRw gfx vCd vFa vRs gof op made vRe amt rlo rhi mst al prc vUn vPf vPt = some x) : zLC cF cc cN gc gcl gof gfx stp mst prc al made amt op rlo rhi x.2.2.2.1 x.2.2.2.2.1 x.2.1 x.2.2.1 x.2.2.2.2.2.2.1 := by
  unfold fn_X11_halves at h1
  obtain ⟨a, ha, h1⟩ := zb_s h1
  obtain ⟨f, -⟩ := zGo hN K ha
  by_cases z : a.1 = 0
  · rw [if_pos z] at h1; rw [← Option.some.inj h1]; exact f
  · rw [if_neg z] at h1
    by_cases w : p1 = (-2)
    · rw [if_pos w] at h1; rw [← Option.some.inj h1]; exact f
    · rw [if_neg w] at h1
      by_cases v : p1 = (-1)
      · rw [if_pos v] at h1; rw [← Option.some.inj h1]; exact f
      · rw [if_neg v] at h1
        obtain ⟨n, -, h1⟩ := zb_s h1
        by_cases u : n = 0
        · rw [if_pos u] at h1; rw [← Option.some.inj h1]; exact f
        · rw [if_neg u] at h1
          obtain ⟨k, -, h1⟩ := zb_s h1
          rw [← Option.some.inj h1]; exact f
/-! take -/
theorem zTakesT {cN : Int32} {mN mH : Nat → Int32} {t o : Nat → Int32} (hN : mN 0 = cN ∧ 0 ≤ cN ∧ cN ≤ 14) (h : fn_X12_takesTried mN t mH = some o) : ∀ i : Int32, 0 ≤ i → i < cN → o i.toNatClampNeg = t i.toNatClampNeg := by
  unfold fn_X12_takesTried at h
  rw [zn01.1, hN.1] at h
  obtain ⟨k, m, h, hm⟩ := zCopyK hN.2 h
  try dsimp only at h
  rw [← Option.some.inj h]
  exact hm
theorem zTakeM {cN mHh mFn mWn mFa mFw mSc mTs mS1 mS2 mS3 mS4 : Int32} {mF mN mCst mS mM mC mW mO m1 m2 mX mG mH mTr mFr mRf mSo mHc mRw mPf mPm : Nat → Int32} {mA mB mLe mGe mEr : Nat → Int64} {mWb : Int64} {p1 : Int32} {y : Int32 × Int32 × Int32 × Int32 × Int32 × Int32 × Int32 × Int32 × Int32 × Int32 × Int32 × (Nat → Int32) × (Nat → Int32) × (Nat → Int32) × (Nat → Int64) × (Nat → Int64) × (Nat → Int64) × (Nat → Int32) × (Nat → Int32) × (Nat → Int32) × (Nat → Int32) × (Nat → Int32) × (Nat → Int32)} (hN : mN 0 = cN ∧ 0 ≤ cN ∧ cN ≤ 14) (h2 : fn_X12_take p1 mFn mWn mWb mHh mFa mFw mSc mTs mS1 mS2 mS3 mS4 mN mG mX mFr mH mTr mCst m1 m2 mC mF mO mLe mA mB mGe mS mEr mM mW mHc mSo mRw mPf mPm mRf = some y) : ∃ b : Int32 × Int32 × Int32 × Int32 × Int32 × Int32 × Int32 × Int32 × Int32 × Int32 × Int32 × (Nat → Int32) × (Nat → Int32) × (Nat → Int64) × (Nat → Int64) × (Nat → Int64) × (Nat → Int32) × (Nat → Int32) × (Nat → Int32) × (Nat → Int32) × (Nat → Int32), fn_X12_canTake p1 mFn mWn mWb mHh mFa mFw mSc mTs mS1 mS2 mS3 mS4 mN mG mX mFr mH mTr mCst m1 m2 mC mF mO mLe mA mB mGe mS mEr mM mW mHc mSo mRw mPf mPm = some b ∧ (b.1 = 0 ∧ y.1 = (-1) ∧ y.2.2.2.2.2.2.2.2.2.2.2.2.1 = mH ∧ y.2.2.2.2.2.2.2.2.2.2.2.2.2.2.2.2.2.2.2.2.2.2 = upd mRf (2 : Int32).toNatClampNeg (mRf (2 : Int32).toNatClampNeg + 1) ∨ ¬ b.1 = 0 ∧ (∀ i : Int32, 0 ≤ i → i < cN → y.2.2.2.2.2.2.2.2.2.2.2.2.1 i.toNatClampNeg = b.2.2.2.2.2.2.2.2.2.2.2.2.1 i.toNatClampNeg) ∧ fn_X12_costTried mCst mN m1 (b.2.2.2.2.2.2.2.2.2.2.2.2.1) m2 mC = some y.1 ∧ y.2.2.2.2.2.2.2.2.2.2.2.2.2.2.2.2.2.2.2.2.2.2 = mRf) := by
  unfold fn_X12_take at h2
  obtain ⟨b, hb, h2⟩ := zb_s h2
  refine ⟨b, hb, ?_⟩
  by_cases c : b.1 = 0
  · rw [if_pos c] at h2
    obtain ⟨r, hr, h2⟩ := zb_s h2
    have er := zrefM hr
    rw [← Option.some.inj h2, er]
    exact Or.inl ⟨c, rfl, rfl, rfl⟩
  · rw [if_neg c] at h2
    obtain ⟨t, ht, h2⟩ := zb_s h2
    obtain ⟨w, hw, h2⟩ := zb_s h2
    rw [← Option.some.inj h2]
    exact Or.inr ⟨c, zTakesT hN ht, hw, rfl⟩
theorem zGc1 {gc : Int32} (hg : 0 ≤ gc ∧ gc ≤ 14) : (-1) ≤ gc - 1 ∧ gc - 1 < gc := by grind
theorem zGc2 {gc g : Int32} (hg : 0 ≤ gc ∧ gc ≤ 14) (h : g < gc) : ¬ gc - 1 < g := by grind
set_option maxHeartbeats 4000000 in
theorem zUnfX {c cF gc : Int32} {gfx into row : Nat → Int32} (hg : 0 ≤ gc ∧ gc ≤ 14) (h : fn_X1_unfold c cF gc gfx into = some row) : ∀ g : Int32, 0 ≤ g → g < gc → ¬ gfx g.toNatClampNeg = (-1) → row g.toNatClampNeg = gfx g.toNatClampNeg := by
  unfold fn_X1_unfold at h
  refine zl_ip (P := fun row : Nat → Int32 => ∀ g : Int32, 0 ≤ g → g < gc → ¬ gfx g.toNatClampNeg = (-1) → row g.toNatClampNeg = gfx g.toNatClampNeg) (fun s => ((-1) ≤ s.2.1 ∧ s.2.1 < gc) ∧ ∀ g : Int32, 0 ≤ g → g < gc → s.2.1 < g → ¬ gfx g.toNatClampNeg = (-1) → s.2.2 g.toNatClampNeg = gfx g.toNatClampNeg) ?_ _ _ _ ?_ h
  rotate_left
  · exact ⟨⟨(zGc1 hg).1, (zGc1 hg).2⟩, fun g g0 g1 g2 => absurd g2 (zGc2 hg g1)⟩
  intro s back o ⟨H1, H2⟩ hb ho
  obtain ⟨r, k, w⟩ := s
  dsimp only at H1 H2 ho
  by_cases d : k < 0
  · rw [if_pos d] at ho
    rw [← Option.some.inj ho]
    exact fun g g0 g1 => H2 g g0 g1 (Int32.lt_of_lt_of_le d g0)
  · rw [if_neg d] at ho
    have k0 : 0 ≤ k := Int32.not_lt.mp d
    have kb : (-1) ≤ k + (-1) ∧ k + (-1) < gc ∧ ∀ g : Int32, k + (-1) < g → g = k ∨ k < g := ⟨(zDn1 k0 H1.2 hg.2).1, (zDn1 k0 H1.2 hg.2).2, fun g q => zDn2 k0 (Int32.le_trans (zN14 k0 H1.2 hg.2).2.2.1 (by decide)) q⟩
    obtain ⟨-, ho⟩ := zg_s ho
    have ho := zn_s ho rfl
    have nxt : ∀ (r2 : Int32) (w2 : Nat → Int32), (∀ g : Int32, 0 ≤ g → ¬ g = k → w2 g.toNatClampNeg = w g.toNatClampNeg) → (¬ gfx k.toNatClampNeg = (-1) → w2 k.toNatClampNeg = gfx k.toNatClampNeg) → back (r2, k + (-1), w2) = some o → ∀ g : Int32, 0 ≤ g → g < gc → ¬ gfx g.toNatClampNeg = (-1) → o g.toNatClampNeg = gfx g.toNatClampNeg := by
      intro r2 w2 e1 e2 hk
      refine hb _ _ ?_ hk
      refine ⟨⟨kb.1, kb.2.1⟩, fun g g0 g1 g2 g3 => ?_⟩
      show w2 g.toNatClampNeg = gfx g.toNatClampNeg
      rcases kb.2.2 g g2 with q | q
      · rw [q] at g3 ⊢; exact e2 g3
      · rw [e1 g g0 (fun z => by rw [z] at q; exact absurd q Int32.lt_irrefl)]
        exact H2 g g0 g1 q g3
    have u1 : ∀ g : Int32, 0 ≤ g → ¬ g = k → upd w k.toNatClampNeg (gfx k.toNatClampNeg) g.toNatClampNeg = w g.toNatClampNeg := fun g g0 q => by rw [zup k0 g0, if_neg q]
    have u2 : upd w k.toNatClampNeg (gfx k.toNatClampNeg) k.toNatClampNeg = gfx k.toNatClampNeg := by rw [zup k0 k0, if_pos rfl]
    by_cases e : gfx k.toNatClampNeg = (-1)
    · rw [if_pos e] at ho
      by_cases f : cF ≤ 0
      · rw [if_pos f] at ho
        exact nxt _ _ u1 (fun _ => u2) ho
      · rw [if_neg f] at ho
        obtain ⟨-, ho⟩ := zd_s ho
        have ho := zn_s ho rfl
        obtain ⟨-, ho⟩ := zd_s ho
        exact nxt _ _ (fun g g0 q => by rw [zup k0 g0, if_neg q]; exact u1 g g0 q) (fun q => absurd e q) ho
    · rw [if_neg e] at ho
      exact nxt _ _ u1 (fun _ => u2) ho
/-- the cheapest CHOICE, taken by both -/
theorem zTake0 {cF cc cN inp gc gfr gcl mHh mFn mWn mFa mFw mSc mTs mS1 mS2 mS3 mS4 uRd uAn uMn uBs uBp uFa uRs : Int32} {nF nN stp mst prc al made amt op fx jn lets gof gfx gld rwd hand mF mN mCst mNF mNN mS mM mC mW mO m1 m2 mX mG mH mTr mFr mSo mHc mRw mPf mPm uP uE uFp uFe uFm uCh : Nat → Int32} {rlo rhi mA mB mLe mGe mEr uRe : Nat → Int64} {mWb : Int64} {nQP nQE nQ3 nQ4 nQ5 : Nat} {a : Int32 × Int32 × Int32 × Int32 × Int32 × Int32 × (Nat → Int32) × Nat × (Nat → Int32) × Nat × (Nat → Int32) × Nat × (Nat → Int32) × Nat × (Nat → Int32) × Nat × (Nat → Int32) × Int32 × Int32 × (Nat → Int64) × (Nat → Int32)} {b : Int32 × Int32 × Int32 × Int32 × Int32 × Int32 × Int32 × Int32 × Int32 × Int32 × Int32 × (Nat → Int32) × (Nat → Int32) × (Nat → Int64) × (Nat → Int64) × (Nat → Int64) × (Nat → Int32) × (Nat → Int32) × (Nat → Int32) × (Nat → Int32) × (Nat → Int32)} (T : zTN cF cc cN inp nF nN stp mst prc al made amt op fx jn lets mF mN mNF mNN mS mM mC mW mCst mO m1 m2 mX mG mA mB) (G : zGp cN gc gfr gcl gof gfx gld fx mG) (R : zRN cN (-1) 0 op made amt rwd rlo rhi) (H : zHN cN cF gcl mHh gof gfx hand mH) (F : zFC cF cc cN gc gfr gcl gof gfx stp mst prc al made amt op rlo rhi uRd uAn uMn uBs uBp uP nQP uE nQE) (h1 : fn_X11_takeCheapest uRd uAn uMn uBs uBp cF cc cN gc gfr gcl al nQP uP nQE uE nQ4 uFe nQ3 uFp nQ5 uFm gfx uCh uFa uRs gof stp op made uRe amt rlo rhi mst prc hand = some a) (h2 : fn_X12_canTake 0 mFn mWn mWb mHh mFa mFw mSc mTs mS1 mS2 mS3 mS4 mN mG mX mFr mH mTr mCst m1 m2 mC mF mO mLe mA mB mGe mS mEr mM mW mHc mSo mRw mPf mPm = some b) : zFC cF cc cN gc gfr gcl gof gfx stp mst prc al made amt op rlo rhi a.2.1 a.2.2.1 a.2.2.2.1 a.2.2.2.2.1 a.2.2.2.2.2.1 a.2.2.2.2.2.2.1 a.2.2.2.2.2.2.2.1 a.2.2.2.2.2.2.2.2.1 a.2.2.2.2.2.2.2.2.2.1 ∧ (a.1 = 0 ∧ b.1 = 0 ∧ a.2.2.2.2.2.2.2.2.2.2.2.2.2.2.2.2.2.2.2.2 = hand ∨ (¬ a.1 = 0 ∧ ¬ b.1 = 0) ∧ zCh cN cF gof a.2.2.2.2.2.2.2.2.2.2.2.2.2.2.2.2.2.2.2.2 b.2.2.2.2.2.2.2.2.2.2.2.2.1 ∧ ∀ g : Int32, 0 ≤ g → g < gc → ¬ gfx g.toNatClampNeg = (-1) → a.2.2.2.2.2.2.2.2.2.2.2.2.2.2.2.2.2.2.2.2 g.toNatClampNeg = gfx g.toNatClampNeg) := by
  have hN := T.2.1
  have gb := zRk_b (G := mG) (p := cN) hN.2.1 hN.2.2
  rw [← G.1.1] at gb
  have gc14 : 0 ≤ gc ∧ gc ≤ 14 := ⟨gb.1, Int32.le_trans gb.2 hN.2.2⟩
  unfold fn_X11_takeCheapest at h1
  unfold fn_X12_canTake at h2
  rw [if_pos rfl] at h2
  obtain ⟨s, hs, h1⟩ := zb_s h1
  obtain ⟨e, he, h2⟩ := zb_s h2
  obtain ⟨fs, ra⟩ := zSea T G F hs
  obtain ⟨re, e2, e3, e4⟩ := zCanS T G H he
  obtain ⟨j, ej, h2⟩ := zj_g h2
  rw [e2] at ej
  -- none in the class
  have cno : (s.1 = 0 ∨ s.2.2.2.2.1 = (-1)) → zFC cF cc cN gc gfr gcl gof gfx stp mst prc al made amt op rlo rhi a.2.1 a.2.2.1 a.2.2.2.1 a.2.2.2.2.1 a.2.2.2.2.2.1 a.2.2.2.2.2.2.1 a.2.2.2.2.2.2.2.1 a.2.2.2.2.2.2.2.2.1 a.2.2.2.2.2.2.2.2.2.1 ∧ a.1 = 0 ∧ a.2.2.2.2.2.2.2.2.2.2.2.2.2.2.2.2.2.2.2.2 = hand := by
    intro q
    by_cases z : s.1 = 0
    · rw [if_pos z] at h1
      rw [← Option.some.inj h1]
      exact ⟨fs, rfl, rfl⟩
    · rw [if_neg z, if_pos (q.resolve_left z)] at h1
      rw [← Option.some.inj h1]
      exact ⟨fs, rfl, rfl⟩
  -- none in the reference
  have mno : ∀ v, j ((-1), v) = some b → b.1 = 0 := by
    intro v hj
    have hj := zj_s ej hj
    try dsimp only at hj
    rw [if_pos rfl, if_pos rfl] at hj
    rw [← Option.some.inj hj]
  rcases re with ⟨r1, r2⟩ | ⟨r1, r2, r3⟩
  · rw [if_pos r1] at h2
    have b0 := mno _ h2
    have c := cno (by
      rcases ra with ⟨q, _⟩ | ⟨_, q2, q3⟩
      · exact Or.inl q
      · rcases q3 with ⟨_, _, w⟩ | ⟨w, _⟩
        · exact Or.inr w
        · exact absurd ⟨q2, w⟩ r2)
    exact ⟨c.1, Or.inl ⟨c.2.1, b0, c.2.2⟩⟩
  · rw [if_neg (show ¬ e.1 = 0 by rw [r1]; decide), e2] at h2
    obtain ⟨c, hc, h2⟩ := zb_s h2
    rcases ra with ⟨_, q⟩ | ⟨q1, _, q3⟩
    · exact absurd r2 q
    · rcases q3 with ⟨w, _⟩ | ⟨_, q, ok, pr, er, w1, w2, w3, w4, -, -⟩
      · exact absurd r3 w
      · have cl : 0 < cN ∧ gcl = 0 := ⟨r2.1, r3⟩
        have b14 : 0 ≤ e.2.1 ∧ e.2.1 ≤ 14 := by rw [e4]; exact (zGfr T G).1
        have w1' : q = zpw cF (e.2.1).toNatClampNeg := by rw [e4]; exact w1
        have ec := zCheapC T G R H cl e3 b14 ⟨w1', w4.1, w4.2⟩ w2 hc
        by_cases z : c.1 = (-1)
        · rw [z] at h2
          have b0 := mno _ h2
          have cc := cno (Or.inr (ec.symm.trans z))
          exact ⟨cc.1, Or.inl ⟨cc.2.1, b0, cc.2.2⟩⟩
        · have nb : ¬ s.2.2.2.2.1 = (-1) := fun y => z (ec.trans y)
          have h2 := zj_s ej h2
          try dsimp only at h2
          rw [if_neg z] at h2
          obtain ⟨t, ht, h2⟩ := zb_s h2
          rw [if_neg z] at h2
          rw [if_neg (show ¬ s.1 = 0 by rw [q1]; decide), if_neg nb] at h1
          obtain ⟨row, hrow, h1⟩ := zb_s h1
          rw [ec] at ht
          rcases w2.2.2.1 with ⟨b1, _⟩ | ⟨b1, _⟩
          · exact absurd b1 nb
          · have bq : 0 ≤ s.2.2.2.2.1 ∧ s.2.2.2.2.1 ≤ 1023 := ⟨b1.1, zK23 b1.2 w4.2⟩
            have C := zUnf T G H cl bq e3.1 e3.2 hrow ht
            rw [← Option.some.inj h1, ← Option.some.inj h2]
            exact ⟨fs, Or.inr ⟨⟨by show ¬ (1 : Int32) = 0; decide, by show ¬ (1 : Int32) = 0; decide⟩, C, zUnfX gc14 hrow⟩⟩
/-- the one BY HALVES -/
theorem zTake1 {cF cc cN inp gc gfr gcl mHh mFn mWn mFa mFw mSc mTs mS1 mS2 mS3 mS4 vRd vSt vPs vPr vTs vFa vRs : Int32} {nF nN stp mst prc al made amt op fx jn lets gof gfx gld rwd hand mF mN mCst mNF mNN mS mM mC mW mO m1 m2 mX mG mH mTr mFr mSo mHc mRw mPf mPm vRw vCd vUn vPf vPt : Nat → Int32} {rlo rhi mA mB mLe mGe mEr vRe : Nat → Int64} {mWb : Int64} {a : Int32 × Int32 × Int32 × Int32 × Int32 × Int32 × (Nat → Int32) × (Nat → Int32) × Int32 × Int32 × (Nat → Int64) × (Nat → Int32) × (Nat → Int32) × (Nat → Int32)} {b : Int32 × Int32 × Int32 × Int32 × Int32 × Int32 × Int32 × Int32 × Int32 × Int32 × Int32 × (Nat → Int32) × (Nat → Int32) × (Nat → Int64) × (Nat → Int64) × (Nat → Int64) × (Nat → Int32) × (Nat → Int32) × (Nat → Int32) × (Nat → Int32) × (Nat → Int32)} (T : zTN cF cc cN inp nF nN stp mst prc al made amt op fx jn lets mF mN mNF mNN mS mM mC mW mCst mO m1 m2 mX mG mA mB) (G : zGp cN gc gfr gcl gof gfx gld fx mG) (R : zRN cN (-1) 0 op made amt rwd rlo rhi) (H : zHN cN cF gcl mHh gof gfx hand mH) (K : zLC cF cc cN gc gcl gof gfx stp mst prc al made amt op rlo rhi vRd vSt vPr vTs vRw) (h1 : fn_X3_goByHalves vRd vSt vPs vPr vTs cF cc cN gc gcl stp vRw gfx vCd vFa vRs gof op made vRe amt rlo rhi mst al prc vUn vPf vPt = some a) (h2 : fn_X12_canTake 1 mFn mWn mWb mHh mFa mFw mSc mTs mS1 mS2 mS3 mS4 mN mG mX mFr mH mTr mCst m1 m2 mC mF mO mLe mA mB mGe mS mEr mM mW mHc mSo mRw mPf mPm = some b) : a.1 = 0 ∧ b.1 = 0 ∨ (¬ a.1 = 0 ∧ ¬ b.1 = 0) ∧ zCh cN cF gof a.2.2.2.2.2.2.1 b.2.2.2.2.2.2.2.2.2.2.2.2.1 ∧ ∀ g : Int32, 0 ≤ g → g < gc → ¬ gfx g.toNatClampNeg = (-1) → a.2.2.2.2.2.2.1 g.toNatClampNeg = gfx g.toNatClampNeg := by
  have hN := T.2.1
  obtain ⟨-, ga⟩ := zGo hN.2.1 K h1
  unfold fn_X12_canTake at h2
  rw [if_neg (by decide), if_pos rfl] at h2
  obtain ⟨c, hc, h2⟩ := zb_s h2
  rw [zn01.1, hN.1] at h2
  have hb : (c.1 = 0 → b.1 = 0) ∧ (¬ c.1 = 0 → ¬ b.1 = 0 ∧ ∀ i : Int32, 0 ≤ i → i < cN → b.2.2.2.2.2.2.2.2.2.2.2.2.1 i.toNatClampNeg = c.2.2.2.2.2.2.2.2.2.2.2.2.2.1 i.toNatClampNeg) := by
    refine zl_ip (P := fun b : Int32 × Int32 × Int32 × Int32 × Int32 × Int32 × Int32 × Int32 × Int32 × Int32 × Int32 × (Nat → Int32) × (Nat → Int32) × (Nat → Int64) × (Nat → Int64) × (Nat → Int64) × (Nat → Int32) × (Nat → Int32) × (Nat → Int32) × (Nat → Int32) × (Nat → Int32) => (c.1 = 0 → b.1 = 0) ∧ (¬ c.1 = 0 → ¬ b.1 = 0 ∧ ∀ i : Int32, 0 ≤ i → i < cN → b.2.2.2.2.2.2.2.2.2.2.2.2.1 i.toNatClampNeg = c.2.2.2.2.2.2.2.2.2.2.2.2.2.1 i.toNatClampNeg)) (fun s => (0 ≤ s.1 ∧ s.1 ≤ cN) ∧ (¬ c.1 = 0 → ∀ i : Int32, 0 ≤ i → i < s.1 → s.2 i.toNatClampNeg = c.2.2.2.2.2.2.2.2.2.2.2.2.2.1 i.toNatClampNeg)) ?_ _ _ _ ?_ h2
    rotate_left
    · exact ⟨⟨Int32.le_refl 0, hN.2.1⟩, fun _ i i0 i1 => absurd i1 (Int32.not_lt.mpr i0)⟩
    intro s back o ⟨H1, H2⟩ hk ho
    obtain ⟨k, r⟩ := s
    dsimp only at H1 H2 ho
    by_cases d : cN ≤ k
    · rw [if_pos d] at ho
      obtain ⟨-, ho⟩ := zt_s ho
      rw [Int32.le_antisymm H1.2 d] at H2
      rw [← Option.some.inj ho]
      exact ⟨fun q => q, fun q => ⟨q, H2 q⟩⟩
    · rw [if_neg d] at ho
      by_cases z : c.1 = 0
      · rw [if_pos z] at ho
        obtain ⟨-, ho⟩ := zt_s ho
        rw [← Option.some.inj ho]
        exact ⟨fun q => q, fun q => absurd z q⟩
      · rw [if_neg z] at ho
        obtain ⟨-, ho⟩ := zg_s ho
        have ho := zn_s ho rfl
        have kb : (0 ≤ k ∧ k < 100000) ∧ 0 ≤ k + 1 ∧ k + 1 ≤ cN := ⟨(zN14 H1.1 (Int32.not_le.mp d) hN.2.2).1, (zN14 H1.1 (Int32.not_le.mp d) hN.2.2).2.2.2.2⟩
        refine hk _ _ ?_ ho
        refine ⟨kb.2, fun q i i0 i1 => ?_⟩
        show upd r k.toNatClampNeg (c.2.2.2.2.2.2.2.2.2.2.2.2.2.1 k.toNatClampNeg) i.toNatClampNeg = c.2.2.2.2.2.2.2.2.2.2.2.2.2.1 i.toNatClampNeg
        rw [zup H1.1 i0]
        rcases zlt1 kb.1 i1 with w | w
        · rw [if_pos w, w]
        · rw [if_neg (fun v => by rw [v] at w; exact absurd w Int32.lt_irrefl)]; exact H2 z i i0 w
  rcases ga with ⟨g1, g2⟩ | ⟨g1, g2⟩
  · exact Or.inl ⟨g2, hb.1 (zHalfNo T H g1 hc)⟩
  · obtain ⟨z1, z2, z3⟩ := zLC_eq T G R H g1 g2 hc
    rcases z2 with z | z
    · exact Or.inl ⟨z1.trans z, hb.1 z⟩
    · obtain ⟨-, -, w3, w4⟩ := z3 z
      have c0 : ¬ c.1 = 0 := by rw [z]; decide
      obtain ⟨b1, b2⟩ := hb.2 c0
      exact Or.inr ⟨⟨by rw [z1]; exact c0, b1⟩, zCh_c w3 b2, w4⟩
/-- the best SINGLE change -/
theorem zTake2 {cF cc cN inp gc gfr gcl mHh mFn mWn mFa mFw mSc mTs mS1 mS2 mS3 mS4 vPa vCe vBg vBf vFa vRs : Int32} {nF nN stp mst prc al made amt op fx jn lets gof gfx gld rwd hand mF mN mCst mNF mNN mS mM mC mW mO m1 m2 mX mG mH mTr mFr mSo mHc mRw mPf mPm vNr : Nat → Int32} {rlo rhi mA mB mLe mGe mEr vRe : Nat → Int64} {mWb : Int64} {a : Int32 × Int32 × Int32 × Int32 × Int32 × (Nat → Int32) × (Nat → Int32) × Int32 × Int32 × (Nat → Int64)} {b : Int32 × Int32 × Int32 × Int32 × Int32 × Int32 × Int32 × Int32 × Int32 × Int32 × Int32 × (Nat → Int32) × (Nat → Int32) × (Nat → Int64) × (Nat → Int64) × (Nat → Int64) × (Nat → Int32) × (Nat → Int32) × (Nat → Int32) × (Nat → Int32) × (Nat → Int32)} (T : zTN cF cc cN inp nF nN stp mst prc al made amt op fx jn lets mF mN mNF mNN mS mM mC mW mCst mO m1 m2 mX mG mA mB) (G : zGp cN gc gfr gcl gof gfx gld fx mG) (R : zRN cN (-1) 0 op made amt rwd rlo rhi) (H : zHN cN cF gcl mHh gof gfx hand mH) (h1 : fn_X11_takeSingle cF cc cN gc gcl vPa vCe vBg vBf hand vNr made gof prc gfx vFa vRs stp op vRe amt rlo rhi mst al = some a) (h2 : fn_X12_canTake 2 mFn mWn mWb mHh mFa mFw mSc mTs mS1 mS2 mS3 mS4 mN mG mX mFr mH mTr mCst m1 m2 mC mF mO mLe mA mB mGe mS mEr mM mW mHc mSo mRw mPf mPm = some b) : a.1 = 0 ∧ b.1 = 0 ∧ a.2.2.2.2.2.1 = hand ∨ (¬ a.1 = 0 ∧ ¬ b.1 = 0) ∧ zCh cN cF gof a.2.2.2.2.2.1 b.2.2.2.2.2.2.2.2.2.2.2.2.1 ∧ ∀ i : Int32, 0 ≤ i → i < cN → ¬ gfx (gof i.toNatClampNeg).toNatClampNeg = (-1) → a.2.2.2.2.2.1 (gof i.toNatClampNeg).toNatClampNeg = gfx (gof i.toNatClampNeg).toNatClampNeg := by
  have hN := T.2.1
  have gb := zRk_b (G := mG) (p := cN) hN.2.1 hN.2.2
  rw [← G.1.1] at gb
  unfold fn_X11_takeSingle at h1
  unfold fn_X12_canTake at h2
  rw [if_neg (by decide), if_neg (by decide), if_pos rfl, zIsTh ⟨hN.1, hN.2.1⟩ H, zb_some] at h2
  rw [zHasC hN.2.1, zb_some] at h1
  by_cases cl : 0 < cN ∧ gcl = 0
  · rw [if_neg (by rw [zif1]; exact fun q => q cl)] at h1 h2
    obtain ⟨l, hl, h1⟩ := zb_s h1
    obtain ⟨f, hf, h1⟩ := zb_s h1
    obtain ⟨m, hm, h2⟩ := zb_s h2
    obtain ⟨th, hth, h2⟩ := zb_s h2
    obtain ⟨-, -, bg⟩ := zLook T G R H cl hl hm
    obtain ⟨C, Dx⟩ := H.2.2 cl.1 cl.2
    unfold fn_X2_isFree at hf
    rcases bg with ⟨q1, _, q3, _⟩ | ⟨q1, q2, q3, q4, q5, q6, q7, q8⟩
    · rw [if_pos (show l.2.2.1 < 0 by rw [q1]; decide)] at hf
      rw [if_pos (Option.some.inj hf).symm] at h1
      rw [if_pos q3, if_pos q3] at h2
      rw [← Option.some.inj h1, ← Option.some.inj h2]
      exact Or.inl ⟨rfl, rfl, rfl⟩
    · rw [if_neg (Int32.not_lt.mpr q1.1), if_neg (Int32.not_le.mpr q1.2)] at hf
      obtain ⟨-, hf⟩ := zg_s hf
      rw [if_pos q2] at hf
      rw [if_neg (show ¬ f = 0 by rw [← Option.some.inj hf]; decide)] at h1
      obtain ⟨-, h1⟩ := zg_s h1
      have n1 : ¬ m.2.2.2.2.2.2.1 = (-1) := fun z => by rw [z] at q3; exact absurd q3.1 (by decide)
      rw [if_neg n1] at h2
      obtain ⟨t, ht, h2⟩ := zb_s h2
      rw [if_neg n1] at h2
      have tr := zTrH hN hth
      have tg := zTrG hN ht
      have gj : gof (m.2.2.2.2.2.2.1).toNatClampNeg = l.2.2.1 := by rw [G.1.2.1 _ q3.1 q3.2, q4, q5]
      have C2 : zCh cN cF gof (upd hand (l.2.2.1).toNatClampNeg l.2.2.2.1) t := by
        refine zCh_g T G C q3 ⟨q7, q8⟩ (fun i i0 i1 => ?_) (fun i i0 i1 => ?_)
        · rw [gj, zup q1.1 i0]
        · rw [q4, tg i i0 i1, tr i i0 i1, q6]
      rw [← Option.some.inj h1, ← Option.some.inj h2]
      refine Or.inr ⟨⟨by show ¬ (1 : Int32) = 0; decide, by show ¬ (1 : Int32) = 0; decide⟩, C2, fun i i0 i1 i2 => ?_⟩
      show upd hand (l.2.2.1).toNatClampNeg l.2.2.2.1 (gof i.toNatClampNeg).toNatClampNeg = gfx (gof i.toNatClampNeg).toNatClampNeg
      rw [zup q1.1 (C i i0 i1).1.1, if_neg (fun z => i2 (by rw [z]; exact q2))]
      exact Dx i i0 i1 i2
  · rw [if_pos (by rw [zif1]; exact cl)] at h1 h2
    rw [← Option.some.inj h1, ← Option.some.inj h2]
    exact Or.inl ⟨rfl, rfl, rfl⟩
theorem zHN_up {cN cF gcl mHh : Int32} {gof gfx hand mH hand' mH' t : Nat → Int32} (H : zHN cN cF gcl mHh gof gfx hand mH) (C : zCh cN cF gof hand' t) (hm : ∀ i : Int32, 0 ≤ i → i < cN → mH' i.toNatClampNeg = t i.toNatClampNeg) (hx : ∀ i : Int32, 0 ≤ i → i < cN → ¬ gfx (gof i.toNatClampNeg).toNatClampNeg = (-1) → hand' (gof i.toNatClampNeg).toNatClampNeg = gfx (gof i.toNatClampNeg).toNatClampNeg) : zHN cN cF gcl mHh gof gfx hand' mH' := ⟨H.1, H.2.1, fun _ _ => ⟨zCh_c C hm, hx⟩⟩
set_option maxHeartbeats 8000000 in
theorem ztake {cF cc cN inp gc gfr gcl mHh mFn mWn mFa mFw mSc mTs mS1 mS2 mS3 mS4 uRd uAn uMn uBs uBp uFa uRs vRd vSt vPs vPr vTs vPa vCe vBg vBf vFa vRs : Int32} {nF nN stp mst prc al made amt op fx jn lets gof gfx gld rwd hand mF mN mCst mNF mNN mS mM mC mW mO m1 m2 mX mG mH mTr mFr mRf mSo mHc mRw mPf mPm rf uP uE uFp uFe uFm uCh vRw vCd vUn vPf vPt vNr : Nat → Int32} {rlo rhi mA mB mLe mGe mEr uRe vRe : Nat → Int64} {mWb : Int64} {nQP nQE nQ3 nQ4 nQ5 : Nat} {p1 : Int32} {x : Int32 × Int32 × Int32 × Int32 × Int32 × Int32 × Int32 × Int32 × Int32 × Int32 × (Nat → Int32) × (Nat → Int32) × Int32 × Int32 × (Nat → Int64) × (Nat → Int32) × (Nat → Int32) × (Nat → Int32) × (Nat → Int32) × (Nat → Int32) × Int32 × Int32 × Int32 × Int32 × Int32 × (Nat → Int32) × Nat × (Nat → Int32) × Nat × (Nat → Int32) × Nat × (Nat → Int32) × Nat × (Nat → Int32) × Nat × (Nat → Int32) × Int32 × Int32 × (Nat → Int64) × (Nat → Int32)} {y : Int32 × Int32 × Int32 × Int32 × Int32 × Int32 × Int32 × Int32 × Int32 × Int32 × Int32 × (Nat → Int32) × (Nat → Int32) × (Nat → Int32) × (Nat → Int64) × (Nat → Int64) × (Nat → Int64) × (Nat → Int32) × (Nat → Int32) × (Nat → Int32) × (Nat → Int32) × (Nat → Int32) × (Nat → Int32)} (T : zTN cF cc cN inp nF nN stp mst prc al made amt op fx jn lets mF mN mNF mNN mS mM mC mW mCst mO m1 m2 mX mG mA mB) (G : zGp cN gc gfr gcl gof gfx gld fx mG) (R : zRN cN (-1) 0 op made amt rwd rlo rhi) (H : zHN cN cF gcl mHh gof gfx hand mH) (F : zFC cF cc cN gc gfr gcl gof gfx stp mst prc al made amt op rlo rhi uRd uAn uMn uBs uBp uP nQP uE nQE) (K : zLC cF cc cN gc gcl gof gfx stp mst prc al made amt op rlo rhi vRd vSt vPr vTs vRw) (h1 : fn_X11_take p1 vRd vSt vPs vPr vTs vPa vCe vBg vBf cF cc cN gc gfr gcl stp vRw gfx vCd vFa vRs gof op made vRe amt rlo rhi mst al prc vUn vPf vPt hand vNr uRd uAn uMn uBs uBp nQP uP nQE uE nQ4 uFe nQ3 uFp nQ5 uFm uCh uFa uRs uRe rf = some x) (h2 : fn_X12_take p1 mFn mWn mWb mHh mFa mFw mSc mTs mS1 mS2 mS3 mS4 mN mG mX mFr mH mTr mCst m1 m2 mC mF mO mLe mA mB mGe mS mEr mM mW mHc mSo mRw mPf mPm mRf = some y) : x.1 = y.1 ∧ zHN cN cF gcl mHh gof gfx x.2.2.2.2.2.2.2.2.2.2.2.2.2.2.2.2.2.2.1 y.2.2.2.2.2.2.2.2.2.2.2.2.1 ∧ zFC cF cc cN gc gfr gcl gof gfx stp mst prc al made amt op rlo rhi x.2.2.2.2.2.2.2.2.2.2.2.2.2.2.2.2.2.2.2.2.1 x.2.2.2.2.2.2.2.2.2.2.2.2.2.2.2.2.2.2.2.2.2.1 x.2.2.2.2.2.2.2.2.2.2.2.2.2.2.2.2.2.2.2.2.2.2.1 x.2.2.2.2.2.2.2.2.2.2.2.2.2.2.2.2.2.2.2.2.2.2.2.1 x.2.2.2.2.2.2.2.2.2.2.2.2.2.2.2.2.2.2.2.2.2.2.2.2.1 x.2.2.2.2.2.2.2.2.2.2.2.2.2.2.2.2.2.2.2.2.2.2.2.2.2.1 x.2.2.2.2.2.2.2.2.2.2.2.2.2.2.2.2.2.2.2.2.2.2.2.2.2.2.1 x.2.2.2.2.2.2.2.2.2.2.2.2.2.2.2.2.2.2.2.2.2.2.2.2.2.2.2.1 x.2.2.2.2.2.2.2.2.2.2.2.2.2.2.2.2.2.2.2.2.2.2.2.2.2.2.2.2.1 ∧ zLC cF cc cN gc gcl gof gfx stp mst prc al made amt op rlo rhi x.2.2.2.2.2.2.2.1 x.2.2.2.2.2.2.2.2.1 x.2.1 x.2.2.1 x.2.2.2.2.2.2.2.2.2.2.1 ∧ (rf = mRf → x.2.2.2.2.2.2.2.2.2.2.2.2.2.2.2.2.2.2.2.2.2.2.2.2.2.2.2.2.2.2.2.2.2.2.2.2.2.2.2 = y.2.2.2.2.2.2.2.2.2.2.2.2.2.2.2.2.2.2.2.2.2.2) := by
  have hN := T.2.1
  have gr : ∀ i : Int32, 0 ≤ i → i < cN → 0 ≤ gof i.toNatClampNeg ∧ gof i.toNatClampNeg < gc := by
    intro i i0 i1
    obtain ⟨l1, l2, l3⟩ := T.2.2.2.2.2.2.2.2.1 i i0 i1
    have b1 := zRk_lt (G := mG) l1 (Int32.lt_of_le_of_lt l2 i1) hN.2.2 l3
    rw [← G.1.1, ← G.1.2.1 i i0 i1] at b1
    exact ⟨(zGofR hN.2.2 T.2.2.2.2.2.2.2.2 G ⟨i0, i1⟩).1, b1⟩
  obtain ⟨b, hb, hy⟩ := zTakeM hN h2
  clear h2
  unfold fn_X11_take at h1
  by_cases c0 : p1 = 0
  · rw [if_pos c0] at h1
    obtain ⟨a, ha, h1⟩ := zb_s h1
    rw [c0] at hb
    obtain ⟨f, z⟩ := zTake0 T G R H F ha hb
    rcases z with ⟨a0, b0, e⟩ | ⟨⟨a0, b0⟩, C, hx⟩
    · rw [if_pos a0] at h1
      obtain ⟨r, hr, h1⟩ := zb_s h1
      have er := zref (by decide) hr
      rcases hy with ⟨_, y1, y2, y3⟩ | ⟨y0, _⟩
      · rw [← Option.some.inj h1, er]
        exact ⟨y1.symm, by rw [y2]; show zHN cN cF gcl mHh gof gfx a.2.2.2.2.2.2.2.2.2.2.2.2.2.2.2.2.2.2.2.2 mH; rw [e]; exact H, f, K, fun q => by rw [y3, ← q]⟩
      · exact absurd b0 y0
    · rw [if_neg a0] at h1
      obtain ⟨w, hw, h1⟩ := zb_s h1
      rcases hy with ⟨y0, _⟩ | ⟨_, y1, y2, y3⟩
      · exact absurd y0 b0
      · rw [← Option.some.inj h1]
        exact ⟨zPriceEq T C hw y2, zHN_up H C y1 (fun i i0 i1 i2 => hx _ (gr i i0 i1).1 (gr i i0 i1).2 i2), f, K, fun q => by rw [y3, ← q]⟩
  · rw [if_neg c0] at h1
    obtain ⟨j, ej, h1⟩ := zj_g h1
    have no : ∀ s, j s = some x → s.1 = 0 → b.1 = 0 → s.2.2.2.2.2.2.2.2.2.2.2.2.1 = hand → zLC cF cc cN gc gcl gof gfx stp mst prc al made amt op rlo rhi s.2.2.2.2.2.2.2.1 s.2.2.2.2.2.2.2.2.1 s.2.1 s.2.2.1 s.2.2.2.2.2.2.2.2.2.2.2.2.2.2.2.2.2.2.1 → x.1 = y.1 ∧ zHN cN cF gcl mHh gof gfx x.2.2.2.2.2.2.2.2.2.2.2.2.2.2.2.2.2.2.1 y.2.2.2.2.2.2.2.2.2.2.2.2.1 ∧ zFC cF cc cN gc gfr gcl gof gfx stp mst prc al made amt op rlo rhi x.2.2.2.2.2.2.2.2.2.2.2.2.2.2.2.2.2.2.2.2.1 x.2.2.2.2.2.2.2.2.2.2.2.2.2.2.2.2.2.2.2.2.2.1 x.2.2.2.2.2.2.2.2.2.2.2.2.2.2.2.2.2.2.2.2.2.2.1 x.2.2.2.2.2.2.2.2.2.2.2.2.2.2.2.2.2.2.2.2.2.2.2.1 x.2.2.2.2.2.2.2.2.2.2.2.2.2.2.2.2.2.2.2.2.2.2.2.2.1 x.2.2.2.2.2.2.2.2.2.2.2.2.2.2.2.2.2.2.2.2.2.2.2.2.2.1 x.2.2.2.2.2.2.2.2.2.2.2.2.2.2.2.2.2.2.2.2.2.2.2.2.2.2.1 x.2.2.2.2.2.2.2.2.2.2.2.2.2.2.2.2.2.2.2.2.2.2.2.2.2.2.2.1 x.2.2.2.2.2.2.2.2.2.2.2.2.2.2.2.2.2.2.2.2.2.2.2.2.2.2.2.2.1 ∧ zLC cF cc cN gc gcl gof gfx stp mst prc al made amt op rlo rhi x.2.2.2.2.2.2.2.1 x.2.2.2.2.2.2.2.2.1 x.2.1 x.2.2.1 x.2.2.2.2.2.2.2.2.2.2.1 ∧ (rf = mRf → x.2.2.2.2.2.2.2.2.2.2.2.2.2.2.2.2.2.2.2.2.2.2.2.2.2.2.2.2.2.2.2.2.2.2.2.2.2.2.2 = y.2.2.2.2.2.2.2.2.2.2.2.2.2.2.2.2.2.2.2.2.2.2) := by
      intro s hj s0 b0 e k
      have hj := zj_s ej hj
      rw [if_pos s0] at hj
      obtain ⟨r, hr, hj⟩ := zb_s hj
      have er := zref (by decide) hr
      rcases hy with ⟨_, y1, y2, y3⟩ | ⟨y0, _⟩
      · rw [← Option.some.inj hj, er]
        exact ⟨y1.symm, by rw [y2]; show zHN cN cF gcl mHh gof gfx s.2.2.2.2.2.2.2.2.2.2.2.2.1 mH; rw [e]; exact H, F, k, fun q => by rw [y3, ← q]⟩
      · exact absurd b0 y0
    have yes : ∀ s, j s = some x → ¬ s.1 = 0 → ¬ b.1 = 0 → zCh cN cF gof s.2.2.2.2.2.2.2.2.2.2.2.2.1 b.2.2.2.2.2.2.2.2.2.2.2.2.1 → (∀ i : Int32, 0 ≤ i → i < cN → ¬ gfx (gof i.toNatClampNeg).toNatClampNeg = (-1) → s.2.2.2.2.2.2.2.2.2.2.2.2.1 (gof i.toNatClampNeg).toNatClampNeg = gfx (gof i.toNatClampNeg).toNatClampNeg) → zLC cF cc cN gc gcl gof gfx stp mst prc al made amt op rlo rhi s.2.2.2.2.2.2.2.1 s.2.2.2.2.2.2.2.2.1 s.2.1 s.2.2.1 s.2.2.2.2.2.2.2.2.2.2.2.2.2.2.2.2.2.2.1 → x.1 = y.1 ∧ zHN cN cF gcl mHh gof gfx x.2.2.2.2.2.2.2.2.2.2.2.2.2.2.2.2.2.2.1 y.2.2.2.2.2.2.2.2.2.2.2.2.1 ∧ zFC cF cc cN gc gfr gcl gof gfx stp mst prc al made amt op rlo rhi x.2.2.2.2.2.2.2.2.2.2.2.2.2.2.2.2.2.2.2.2.1 x.2.2.2.2.2.2.2.2.2.2.2.2.2.2.2.2.2.2.2.2.2.1 x.2.2.2.2.2.2.2.2.2.2.2.2.2.2.2.2.2.2.2.2.2.2.1 x.2.2.2.2.2.2.2.2.2.2.2.2.2.2.2.2.2.2.2.2.2.2.2.1 x.2.2.2.2.2.2.2.2.2.2.2.2.2.2.2.2.2.2.2.2.2.2.2.2.1 x.2.2.2.2.2.2.2.2.2.2.2.2.2.2.2.2.2.2.2.2.2.2.2.2.2.1 x.2.2.2.2.2.2.2.2.2.2.2.2.2.2.2.2.2.2.2.2.2.2.2.2.2.2.1 x.2.2.2.2.2.2.2.2.2.2.2.2.2.2.2.2.2.2.2.2.2.2.2.2.2.2.2.1 x.2.2.2.2.2.2.2.2.2.2.2.2.2.2.2.2.2.2.2.2.2.2.2.2.2.2.2.2.1 ∧ zLC cF cc cN gc gcl gof gfx stp mst prc al made amt op rlo rhi x.2.2.2.2.2.2.2.1 x.2.2.2.2.2.2.2.2.1 x.2.1 x.2.2.1 x.2.2.2.2.2.2.2.2.2.2.1 ∧ (rf = mRf → x.2.2.2.2.2.2.2.2.2.2.2.2.2.2.2.2.2.2.2.2.2.2.2.2.2.2.2.2.2.2.2.2.2.2.2.2.2.2.2 = y.2.2.2.2.2.2.2.2.2.2.2.2.2.2.2.2.2.2.2.2.2.2) := by
      intro s hj s0 b0 C hx k
      have hj := zj_s ej hj
      rw [if_neg s0] at hj
      obtain ⟨w, hw, hj⟩ := zb_s hj
      rcases hy with ⟨y0, _⟩ | ⟨_, y1, y2, y3⟩
      · exact absurd y0 b0
      · rw [← Option.some.inj hj]
        exact ⟨zPriceEq T C hw y2, zHN_up H C y1 hx, F, k, fun q => by rw [y3, ← q]⟩
    clear ej
    obtain ⟨i, ei, h1⟩ := zj_g h1
    by_cases c1 : p1 = 1
    · rw [if_pos c1] at h1
      obtain ⟨a, ha, h1⟩ := zb_s h1
      rw [c1] at hb
      obtain ⟨k, -⟩ := zGo hN.2.1 K ha
      rcases zTake1 T G R H K ha hb with ⟨a0, b0⟩ | ⟨⟨a0, b0⟩, C, hx⟩
      · rw [if_pos a0] at h1
        have h1 := zj_s ei h1
        rw [if_neg (show ¬ p1 = 2 by rw [c1]; decide)] at h1
        exact no _ h1 rfl b0 rfl k
      · rw [if_neg a0] at h1
        obtain ⟨h, hh, h1⟩ := zb_s h1
        have cp := zCopyC hh
        have C2 : zCh cN cF gof h b.2.2.2.2.2.2.2.2.2.2.2.2.1 := by
          intro i i0 i1
          obtain ⟨⟨d1, d2⟩, d3⟩ := C i i0 i1
          rw [cp _ d1 d2]
          exact ⟨⟨d1, d2⟩, d3⟩
        refine yes _ h1 (by show ¬ (1 : Int32) = 0; decide) b0 C2 (fun i i0 i1 i2 => ?_) k
        show h (gof i.toNatClampNeg).toNatClampNeg = gfx (gof i.toNatClampNeg).toNatClampNeg
        obtain ⟨⟨d1, d2⟩, -⟩ := C i i0 i1
        rw [cp _ d1 d2]
        exact hx _ (gr i i0 i1).1 (gr i i0 i1).2 i2
    · rw [if_neg c1] at h1
      have h1 := zj_s ei h1
      by_cases c2 : p1 = 2
      · rw [if_pos c2] at h1
        obtain ⟨a, ha, h1⟩ := zb_s h1
        rw [c2] at hb
        rcases zTake2 T G R H ha hb with ⟨a0, b0, e⟩ | ⟨⟨a0, b0⟩, C, hx⟩
        · exact no _ h1 a0 b0 e K
        · exact yes _ h1 a0 b0 C hx K
      · rw [if_neg c2] at h1
        unfold fn_X12_canTake at hb
        rw [if_neg c0, if_neg c1, if_neg c2] at hb
        exact no _ h1 rfl (by rw [← Option.some.inj hb]) rfl K
/-! how far a box may grow: where a longer box PASSES, a shorter one does -/
theorem zFd_i {x : Int64} {X : Int} (hX : x.toInt = X) (h : -9000000000000000000 ≤ X ∧ X ≤ 9000000000000000000) : (zFd x 2000).toInt = X / 2000 := by
  have e2 : (2000 : Int64).toInt = 2000 := by decide +kernel
  have k : X.tdiv 2000 = X / 2000 ∧ 0 ≤ X ∨ X.tdiv 2000 = -((-X) / 2000) ∧ X < 0 := by
    by_cases c : 0 ≤ X
    · exact Or.inl ⟨Int.tdiv_eq_ediv_of_nonneg c, c⟩
    · refine Or.inr ⟨?_, by omega⟩
      obtain ⟨Y, hY⟩ : ∃ Y : Int, X = -Y := ⟨-X, by omega⟩
      rw [hY, Int.neg_tdiv, Int.tdiv_eq_ediv_of_nonneg (by omega), Int.neg_neg]
  have e4 : (x / 2000).toInt = X.tdiv 2000 := by
    rw [Int64.toInt_div_of_ne_right _ _ (by decide), hX, e2]
  generalize X.tdiv 2000 = q at k e4
  have e5 := zoL_mul (x := x / 2000) (y := 2000) (z := x / 2000 * 2000) rfl e4 e2 (by omega)
  have e6 := zoL_sub (x := x) (y := x / 2000 * 2000) (z := x - x / 2000 * 2000) rfl hX e5 (by omega)
  unfold zFd
  by_cases c : x - x / 2000 * 2000 = 0
  · rw [if_pos c, e4]
    rw [c, zl0] at e6
    omega
  · rw [if_neg c]
    have c' : ¬ (x - x / 2000 * 2000).toInt = 0 := fun q => c (Int64.toInt_inj.mp (by rw [q, zl0]))
    rw [e6] at c'
    by_cases d : 0 ≤ x
    · have d' := Int64.le_iff_toInt_le.mp d
      rw [zl0, hX] at d'
      rw [if_pos d, e4]
      omega
    · have d' : ¬ (0 : Int64).toInt ≤ x.toInt := fun q => d (Int64.le_iff_toInt_le.mpr q)
      rw [zl0, hX] at d'
      have e7 := zoL_sub (x := x / 2000) (y := 1) (z := x / 2000 - 1) rfl e4 (show (1 : Int64).toInt = 1 by decide +kernel) (by omega)
      rw [if_neg d, e7]
      omega
theorem zmab {A B M : Int} (hA : -M ≤ A ∧ A ≤ M) (hB : -M ≤ B ∧ B ≤ M) : -(M * M) ≤ A * B ∧ A * B ≤ M * M := by
  have h1 := Int.mul_nonneg (show 0 ≤ M - A by omega) (show 0 ≤ M + B by omega)
  have h2 := Int.mul_nonneg (show 0 ≤ M + A by omega) (show 0 ≤ M - B by omega)
  have h3 := Int.mul_nonneg (show 0 ≤ M - A by omega) (show 0 ≤ M - B by omega)
  have h4 := Int.mul_nonneg (show 0 ≤ M + A by omega) (show 0 ≤ M + B by omega)
  simp only [Int.sub_mul, Int.add_mul, Int.mul_sub, Int.mul_add] at h1 h2 h3 h4
  omega
theorem zmab9 {A B : Int} (hA : -1000000000 ≤ A ∧ A ≤ 1000000000) (hB : -1000000000 ≤ B ∧ B ≤ 1000000000) : -1000000000000000000 ≤ A * B ∧ A * B ≤ 1000000000000000000 := by
  have := zmab (M := 1000000000) hA hB
  omega
theorem zPr_i {a b : Int64} (hA : -1000000000 ≤ a.toInt ∧ a.toInt ≤ 1000000000) (hB : -1000000000 ≤ b.toInt ∧ b.toInt ≤ 1000000000) : (zPr a b 1).toInt = (2 * (a.toInt * b.toInt) + 1000) / 2000 := by
  have m := zmab9 hA hB
  have e1 := zoL_mul (x := 2) (y := a) (z := 2 * a) rfl (show (2 : Int64).toInt = 2 by decide +kernel) rfl (by omega)
  have e2 := zoL_mul (x := 2 * a) (y := b) (z := 2 * a * b) rfl e1 rfl (by rw [Int.mul_assoc]; omega)
  rw [Int.mul_assoc] at e2
  have e3 := zoL_add (x := 2 * a * b) (y := 1000) (z := 2 * a * b + 1000) rfl e2 zl1000 (by omega)
  unfold zPr
  rw [show (1000 * 1 : Int64) = 1000 by decide, show (2000 * 1 : Int64) = 2000 by decide, Int64.mul_one]
  exact zFd_i e3 (by omega)
theorem zLs_i (a b : Int64) : (zLs a b).toInt = a.toInt ∧ a.toInt ≤ b.toInt ∨ (zLs a b).toInt = b.toInt ∧ b.toInt ≤ a.toInt := by
  unfold zLs
  by_cases c : b < a
  · rw [if_pos c]
    have := Int64.lt_iff_toInt_lt.mp c
    exact Or.inr ⟨rfl, by omega⟩
  · rw [if_neg c]
    have c' : ¬ b.toInt < a.toInt := fun q => c (Int64.lt_iff_toInt_lt.mpr q)
    exact Or.inl ⟨rfl, by omega⟩
theorem zLs4 (a b c d : Int64) : ((zLs (zLs a b) (zLs c d)).toInt ≤ a.toInt ∧ (zLs (zLs a b) (zLs c d)).toInt ≤ b.toInt ∧ (zLs (zLs a b) (zLs c d)).toInt ≤ c.toInt ∧ (zLs (zLs a b) (zLs c d)).toInt ≤ d.toInt) ∧ ((zLs (zLs a b) (zLs c d)).toInt = a.toInt ∨ (zLs (zLs a b) (zLs c d)).toInt = b.toInt ∨ (zLs (zLs a b) (zLs c d)).toInt = c.toInt ∨ (zLs (zLs a b) (zLs c d)).toInt = d.toInt) := by
  have h1 := zLs_i a b
  have h2 := zLs_i c d
  have h3 := zLs_i (zLs a b) (zLs c d)
  generalize (zLs (zLs a b) (zLs c d)).toInt = w at h3 ⊢
  generalize (zLs a b).toInt = u at h1 h3
  generalize (zLs c d).toInt = v at h2 h3
  refine ⟨⟨?_, ?_, ?_, ?_⟩, ?_⟩ <;> omega
theorem zMx4 (a b c d : Int64) : (a.toInt ≤ (zMx (zMx a b) (zMx c d)).toInt ∧ b.toInt ≤ (zMx (zMx a b) (zMx c d)).toInt ∧ c.toInt ≤ (zMx (zMx a b) (zMx c d)).toInt ∧ d.toInt ≤ (zMx (zMx a b) (zMx c d)).toInt) ∧ ((zMx (zMx a b) (zMx c d)).toInt = a.toInt ∨ (zMx (zMx a b) (zMx c d)).toInt = b.toInt ∨ (zMx (zMx a b) (zMx c d)).toInt = c.toInt ∨ (zMx (zMx a b) (zMx c d)).toInt = d.toInt) := by
  have h1 := zMx_i a b
  have h2 := zMx_i c d
  have h3 := zMx_i (zMx a b) (zMx c d)
  generalize (zMx (zMx a b) (zMx c d)).toInt = w at h3 ⊢
  generalize (zMx a b).toInt = u at h1 h3
  generalize (zMx c d).toInt = v at h2 h3
  refine ⟨⟨?_, ?_, ?_, ?_⟩, ?_⟩ <;> omega
theorem zcor {x y c d : Int} (h : c ≤ y ∧ y ≤ d) : x * c ≤ x * y ∧ x * y ≤ x * d ∨ x * d ≤ x * y ∧ x * y ≤ x * c := by
  rcases Int.le_total 0 x with q | q
  · exact Or.inl ⟨Int.mul_le_mul_of_nonneg_left h.1 q, Int.mul_le_mul_of_nonneg_left h.2 q⟩
  · have h1 := Int.mul_le_mul_of_nonneg_left h.1 (show 0 ≤ -x by omega)
    have h2 := Int.mul_le_mul_of_nonneg_left h.2 (show 0 ≤ -x by omega)
    simp only [Int.neg_mul] at h1 h2
    exact Or.inr ⟨by omega, by omega⟩
/-- a product lies between those of the ends, also rounded -/
theorem zbil {a b c d x y : Int} (hx : a ≤ x ∧ x ≤ b) (hy : c ≤ y ∧ y ≤ d) : (a * c ≤ x * y ∨ a * d ≤ x * y ∨ b * c ≤ x * y ∨ b * d ≤ x * y) ∧ (x * y ≤ a * c ∨ x * y ≤ a * d ∨ x * y ≤ b * c ∨ x * y ≤ b * d) := by
  have h1 := zcor (x := x) hy
  have h2 := zcor (x := c) hx
  have h3 := zcor (x := d) hx
  rw [Int.mul_comm c a, Int.mul_comm c x, Int.mul_comm c b] at h2
  rw [Int.mul_comm d a, Int.mul_comm d x, Int.mul_comm d b] at h3
  generalize x * y = u at h1 h2 h3 ⊢
  generalize x * c = v at h1 h2
  generalize x * d = w at h1 h3
  refine ⟨?_, ?_⟩ <;> omega
theorem zbr {a b c d x y : Int64} (hx : a.toInt ≤ x.toInt ∧ x.toInt ≤ b.toInt) (hy : c.toInt ≤ y.toInt ∧ y.toInt ≤ d.toInt) (ha : -1000000000 ≤ a.toInt ∧ b.toInt ≤ 1000000000) (hc : -1000000000 ≤ c.toInt ∧ d.toInt ≤ 1000000000) : (zLs (zLs (zPr a c 1) (zPr a d 1)) (zLs (zPr b c 1) (zPr b d 1))).toInt ≤ (zPr x y 1).toInt ∧ (zPr x y 1).toInt ≤ (zMx (zMx (zPr a c 1) (zPr a d 1)) (zMx (zPr b c 1) (zPr b d 1))).toInt := by
  have h := zbil hx hy
  have l := (zLs4 (zPr a c 1) (zPr a d 1) (zPr b c 1) (zPr b d 1)).1
  have m := (zMx4 (zPr a c 1) (zPr a d 1) (zPr b c 1) (zPr b d 1)).1
  rw [zPr_i (a := a) (b := c) (by omega) (by omega), zPr_i (a := a) (b := d) (by omega) (by omega), zPr_i (a := b) (b := c) (by omega) (by omega), zPr_i (a := b) (b := d) (by omega) (by omega)] at l m
  rw [zPr_i (a := x) (b := y) (by omega) (by omega)]
  generalize (zLs (zLs (zPr a c 1) (zPr a d 1)) (zLs (zPr b c 1) (zPr b d 1))).toInt = L at l ⊢
  generalize (zMx (zMx (zPr a c 1) (zPr a d 1)) (zMx (zPr b c 1) (zPr b d 1))).toInt = M at m ⊢
  generalize a.toInt * c.toInt = p1 at h l m
  generalize a.toInt * d.toInt = p2 at h l m
  generalize b.toInt * c.toInt = p3 at h l m
  generalize b.toInt * d.toInt = p4 at h l m
  generalize x.toInt * y.toInt = p at h ⊢
  obtain ⟨h1, h2⟩ := h
  refine ⟨?_, ?_⟩
  · rcases h1 with h1 | h1 | h1 | h1 <;> omega
  · rcases h2 with h2 | h2 | h2 | h2 <;> omega
set_option maxHeartbeats 2000000 in
theorem zLoV_m {p : Int32} {a b c d a' b' c' d' : Int64} (h1 : -1000000000 ≤ a'.toInt ∧ a'.toInt ≤ a.toInt ∧ a.toInt ≤ b.toInt ∧ b.toInt ≤ b'.toInt ∧ b'.toInt ≤ 1000000000) (h2 : -1000000000 ≤ c'.toInt ∧ c'.toInt ≤ c.toInt ∧ c.toInt ≤ d.toInt ∧ d.toInt ≤ d'.toInt ∧ d'.toInt ≤ 1000000000) : (zLoV p a' b' c' d').toInt ≤ (zLoV p a b c d).toInt ∧ (zLoV p a b c d).toInt ≤ (zHiV p a b c d).toInt ∧ (zHiV p a b c d).toInt ≤ (zHiV p a' b' c' d').toInt ∧ -5000000000000000 ≤ (zLoV p a' b' c' d').toInt ∧ (zHiV p a' b' c' d').toInt ≤ 5000000000000000 := by
  unfold zLoV zHiV zAp
  by_cases c2 : p = 2
  · simp only [if_pos c2]
    have e1 := zoL_sub (x := a) (y := d) rfl rfl rfl (by omega)
    have e2 := zoL_sub (x := a') (y := d') rfl rfl rfl (by omega)
    have e3 := zoL_sub (x := b) (y := c) rfl rfl rfl (by omega)
    have e4 := zoL_sub (x := b') (y := c') rfl rfl rfl (by omega)
    refine ⟨?_, ?_, ?_, ?_, ?_⟩ <;> omega
  · simp only [if_neg c2]
    by_cases c3 : p = 3
    · simp only [if_pos c3]
      have v1 := zbr (x := a) (y := c) (a := a') (b := b') (c := c') (d := d') (by omega) (by omega) (by omega) (by omega)
      have v2 := zbr (x := a) (y := d) (a := a') (b := b') (c := c') (d := d') (by omega) (by omega) (by omega) (by omega)
      have v3 := zbr (x := b) (y := c) (a := a') (b := b') (c := c') (d := d') (by omega) (by omega) (by omega) (by omega)
      have v4 := zbr (x := b) (y := d) (a := a') (b := b') (c := c') (d := d') (by omega) (by omega) (by omega) (by omega)
      have l := zLs4 (zPr a c 1) (zPr a d 1) (zPr b c 1) (zPr b d 1)
      have m := zMx4 (zPr a c 1) (zPr a d 1) (zPr b c 1) (zPr b d 1)
      have l' := (zLs4 (zPr a' c' 1) (zPr a' d' 1) (zPr b' c' 1) (zPr b' d' 1)).2
      have m' := (zMx4 (zPr a' c' 1) (zPr a' d' 1) (zPr b' c' 1) (zPr b' d' 1)).2
      have w1 := zmab9 (A := a'.toInt) (B := c'.toInt) (by omega) (by omega)
      have w2 := zmab9 (A := a'.toInt) (B := d'.toInt) (by omega) (by omega)
      have w3 := zmab9 (A := b'.toInt) (B := c'.toInt) (by omega) (by omega)
      have w4 := zmab9 (A := b'.toInt) (B := d'.toInt) (by omega) (by omega)
      rw [zPr_i (a := a') (b := c') (by omega) (by omega), zPr_i (a := a') (b := d') (by omega) (by omega), zPr_i (a := b') (b := c') (by omega) (by omega), zPr_i (a := b') (b := d') (by omega) (by omega)] at l' m'
      generalize a'.toInt * c'.toInt = z1 at w1 l' m'
      generalize a'.toInt * d'.toInt = z2 at w2 l' m'
      generalize b'.toInt * c'.toInt = z3 at w3 l' m'
      generalize b'.toInt * d'.toInt = z4 at w4 l' m'
      generalize (zLs (zLs (zPr a' c' 1) (zPr a' d' 1)) (zLs (zPr b' c' 1) (zPr b' d' 1))).toInt = L' at v1 v2 v3 v4 l' ⊢
      generalize (zMx (zMx (zPr a' c' 1) (zPr a' d' 1)) (zMx (zPr b' c' 1) (zPr b' d' 1))).toInt = M' at v1 v2 v3 v4 m' ⊢
      generalize (zLs (zLs (zPr a c 1) (zPr a d 1)) (zLs (zPr b c 1) (zPr b d 1))).toInt = L at l ⊢
      generalize (zMx (zMx (zPr a c 1) (zPr a d 1)) (zMx (zPr b c 1) (zPr b d 1))).toInt = M at m ⊢
      generalize (zPr a c 1).toInt = r1 at v1 l m
      generalize (zPr a d 1).toInt = r2 at v2 l m
      generalize (zPr b c 1).toInt = r3 at v3 l m
      generalize (zPr b d 1).toInt = r4 at v4 l m
      clear h1 h2
      refine ⟨?_, ?_, ?_, ?_, ?_⟩
      · rcases l.2 with q | q | q | q <;> omega
      · omega
      · rcases m.2 with q | q | q | q <;> omega
      · rcases l' with q | q | q | q <;> omega
      · rcases m' with q | q | q | q <;> omega
    · simp only [if_neg c3]
      by_cases c1 : p = 1
      · simp only [if_pos c1]
        have e1 := zoL_add (x := a) (y := c) rfl rfl rfl (by omega)
        have e2 := zoL_add (x := a') (y := c') rfl rfl rfl (by omega)
        have e3 := zoL_add (x := b) (y := d) rfl rfl rfl (by omega)
        have e4 := zoL_add (x := b') (y := d') rfl rfl rfl (by omega)
        refine ⟨?_, ?_, ?_, ?_, ?_⟩ <;> omega
      · simp only [if_neg c1]
        by_cases c4 : p = 4
        · simp only [if_pos c4]
          have e1 := zLs_i a c
          have e2 := zLs_i a' c'
          have e3 := zLs_i b d
          have e4 := zLs_i b' d'
          refine ⟨?_, ?_, ?_, ?_, ?_⟩ <;> omega
        · simp only [if_neg c4]
          have e1 := zMx_i a c
          have e2 := zMx_i a' c'
          have e3 := zMx_i b d
          have e4 := zMx_i b' d'
          refine ⟨?_, ?_, ?_, ?_, ?_⟩ <;> omega
/-- the narrower RANGE lies in the wider one -/
noncomputable def zIn (lo hi LO HI : Nat → Int64) (m : Int32) : Prop := -1000000000 ≤ (LO m.toNatClampNeg).toInt ∧ (LO m.toNatClampNeg).toInt ≤ (lo m.toNatClampNeg).toInt ∧ (lo m.toNatClampNeg).toInt ≤ (hi m.toNatClampNeg).toInt ∧ (hi m.toNatClampNeg).toInt ≤ (HI m.toNatClampNeg).toInt ∧ (HI m.toNatClampNeg).toInt ≤ 1000000000
theorem zVal_m {m a : Int32} {lo hi LO HI : Nat → Int64} (ha : (-10000000) ≤ a ∧ a ≤ 10000000) (h : m = (-1) ∨ zIn lo hi LO HI m) : -1000000000 ≤ (zVal m a LO).toInt ∧ (zVal m a LO).toInt ≤ (zVal m a lo).toInt ∧ (zVal m a lo).toInt ≤ (zVal m a hi).toInt ∧ (zVal m a hi).toInt ≤ (zVal m a HI).toInt ∧ (zVal m a HI).toInt ≤ 1000000000 := by
  have k1 := Int32.le_iff_toInt_le.mp ha.1
  have k2 := Int32.le_iff_toInt_le.mp ha.2
  rw [show (-10000000 : Int32).toInt = -10000000 by decide +kernel] at k1
  rw [show (10000000 : Int32).toInt = 10000000 by decide +kernel] at k2
  by_cases c : m = (-1)
  · have e : ∀ row : Nat → Int64, (zVal m a row).toInt = a.toInt := fun row => by unfold zVal; rw [if_pos c, z64_i]
    rw [e, e, e, e]
    omega
  · have e : ∀ row : Nat → Int64, zVal m a row = row m.toNatClampNeg := fun row => by unfold zVal; rw [if_neg c]
    rw [e, e, e, e]
    exact h.resolve_left c
theorem zAw_m {m a : Int32} {lo hi LO HI : Nat → Int64} (ha : (-10000000) ≤ a ∧ a ≤ 10000000) (h : m = (-1) ∨ zIn lo hi LO HI m) : 0 ≤ (zAw m a lo hi).toInt ∧ (zAw m a lo hi).toInt ≤ (zAw m a LO HI).toInt ∧ (zAw m a LO HI).toInt ≤ 1000000000 := by
  have v := zVal_m ha h
  unfold zAw
  have a1 := zAb_i (x := zVal m a lo) (by omega)
  have a2 := zAb_i (x := zVal m a hi) (by omega)
  have a3 := zAb_i (x := zVal m a LO) (by omega)
  have a4 := zAb_i (x := zVal m a HI) (by omega)
  have m1 := zMx_i (zAb (zVal m a lo)) (zAb (zVal m a hi))
  have m2 := zMx_i (zAb (zVal m a LO)) (zAb (zVal m a HI))
  generalize (zMx (zAb (zVal m a lo)) (zAb (zVal m a hi))).toInt = u1 at m1 ⊢
  generalize (zMx (zAb (zVal m a LO)) (zAb (zVal m a HI))).toInt = u2 at m2 ⊢
  refine ⟨?_, ?_, ?_⟩ <;> omega
theorem zCe_m {s : Int32} {own e e' : Int64} {m a : Int32} (hs : 1 ≤ s ∧ s ≤ 1000000) (h : m = (-1) ∨ (0 ≤ e.toInt ∧ e.toInt ≤ e'.toInt ∧ e'.toInt ≤ 1000000000)) : 0 ≤ (zCe s.toInt64 m a own e).toInt ∧ (zCe s.toInt64 m a own e).toInt ≤ (zCe s.toInt64 m a own e').toInt ∧ (zCe s.toInt64 m a own e').toInt ≤ 2000000000 := by
  have b1 := zCe_b (a := a) (own := own) hs (h.imp id (fun q => (⟨q.1, by omega⟩ : 0 ≤ e.toInt ∧ e.toInt ≤ 1000000000)))
  have b2 := zCe_b (a := a) (own := own) hs (h.imp id (fun q => (⟨by omega, q.2.2⟩ : 0 ≤ e'.toInt ∧ e'.toInt ≤ 1000000000)))
  refine ⟨b1.1, ?_, b2.2⟩
  have hh := zhf_b hs
  clear b1 b2
  by_cases c : m = (-1)
  · have q : ∀ v : Int64, zCe s.toInt64 m a own v = if a.toInt64 - a.toInt64 / s.toInt64 * s.toInt64 = 0 then 0 else s.toInt64 / 2 := fun v => by unfold zCe; rw [if_pos c]
    rw [q e, q e']
    exact Int.le_refl _
  · have q : ∀ v : Int64, zCe s.toInt64 m a own v = if own - own / s.toInt64 * s.toInt64 = 0 then v else v + s.toInt64 / 2 := fun v => by unfold zCe; rw [if_neg c]
    rw [q e, q e']
    have h := h.resolve_left c
    by_cases d : own - own / s.toInt64 * s.toInt64 = 0
    · rw [if_pos d, if_pos d]; exact h.2.1
    · rw [if_neg d, if_neg d]
      have s1 := zoL_add (x := e) (y := s.toInt64 / 2) rfl rfl rfl (by omega)
      have s2 := zoL_add (x := e') (y := s.toInt64 / 2) rfl rfl rfl (by omega)
      omega
theorem zV_i {a b x y : Int64} (ha : 0 ≤ a.toInt ∧ a.toInt ≤ 2000000000) (hb : 0 ≤ b.toInt ∧ b.toInt ≤ 2000000000) (hx : 0 ≤ x.toInt ∧ x.toInt ≤ 1000000000) (hy : 0 ≤ y.toInt ∧ y.toInt ≤ 1000000000) : (x * b + y * a + a * b).toInt = x.toInt * b.toInt + y.toInt * a.toInt + a.toInt * b.toInt := by
  have p1 : 0 ≤ x.toInt * b.toInt ∧ x.toInt * b.toInt ≤ 1000000000 * 2000000000 := ⟨Int.mul_nonneg hx.1 hb.1, Int.mul_le_mul hx.2 hb.2 hb.1 (by omega)⟩
  have p2 : 0 ≤ y.toInt * a.toInt ∧ y.toInt * a.toInt ≤ 1000000000 * 2000000000 := ⟨Int.mul_nonneg hy.1 ha.1, Int.mul_le_mul hy.2 ha.2 ha.1 (by omega)⟩
  have p3 : 0 ≤ a.toInt * b.toInt ∧ a.toInt * b.toInt ≤ 2000000000 * 2000000000 := ⟨Int.mul_nonneg ha.1 hb.1, Int.mul_le_mul ha.2 hb.2 hb.1 (by omega)⟩
  have m1 := zoL_mul (x := x) (y := b) rfl rfl rfl (by omega)
  have m2 := zoL_mul (x := y) (y := a) rfl rfl rfl (by omega)
  have m3 := zoL_mul (x := a) (y := b) rfl rfl rfl (by omega)
  have s1 := zoL_add (x := x * b) (y := y * a) rfl m1 m2 (by omega)
  exact zoL_add (x := x * b + y * a) (y := a * b) rfl s1 m3 (by omega)
theorem zEr_m {p s : Int32} {a b x y a' b' x' y' : Int64} (hs : 1 ≤ s ∧ s ≤ 1000000) (ha : 0 ≤ a.toInt ∧ a.toInt ≤ a'.toInt ∧ a'.toInt ≤ 2000000000) (hb : 0 ≤ b.toInt ∧ b.toInt ≤ b'.toInt ∧ b'.toInt ≤ 2000000000) (hx : 0 ≤ x.toInt ∧ x.toInt ≤ x'.toInt ∧ x'.toInt ≤ 1000000000) (hy : 0 ≤ y.toInt ∧ y.toInt ≤ y'.toInt ∧ y'.toInt ≤ 1000000000) : (zEr p s.toInt64 a b x y).toInt ≤ (zEr p s.toInt64 a' b' x' y').toInt := by
  have hh := zhf_b hs
  by_cases c0 : p = 0
  · have q : ∀ u v w z : Int64, zEr p s.toInt64 u v w z = s.toInt64 / 2 := fun u v w z => by unfold zEr; rw [if_pos c0]
    rw [q a b x y, q a' b' x' y']
    exact Int.le_refl _
  · by_cases c1 : p = 1 ∨ p = 2
    · have q : ∀ u v w z : Int64, zEr p s.toInt64 u v w z = u + v := fun u v w z => by unfold zEr; rw [if_neg c0, if_pos c1]
      rw [q a b x y, q a' b' x' y']
      have s1 := zoL_add (x := a) (y := b) rfl rfl rfl (by omega)
      have s2 := zoL_add (x := a') (y := b') rfl rfl rfl (by omega)
      omega
    · by_cases c3 : p = 3
      · have q : ∀ u v w z : Int64, zEr p s.toInt64 u v w z = -zFd (-(w * v + z * u + u * v)) 1000 + s.toInt64 / 2 + 1 := fun u v w z => by unfold zEr; rw [if_neg c0, if_neg c1, if_pos c3]
        rw [q a b x y, q a' b' x' y']
        have v := zV_b (a := a) (b := b) (x := x) (y := y) ⟨ha.1, by omega⟩ ⟨hb.1, by omega⟩ ⟨hx.1, by omega⟩ ⟨hy.1, by omega⟩
        have v' := zV_b (a := a') (b := b') (x := x') (y := y') ⟨by omega, ha.2.2⟩ ⟨by omega, hb.2.2⟩ ⟨by omega, hx.2.2⟩ ⟨by omega, hy.2.2⟩
        have i := zV_i (a := a) (b := b) (x := x) (y := y) ⟨ha.1, by omega⟩ ⟨hb.1, by omega⟩ ⟨hx.1, by omega⟩ ⟨hy.1, by omega⟩
        have i' := zV_i (a := a') (b := b') (x := x') (y := y') ⟨by omega, ha.2.2⟩ ⟨by omega, hb.2.2⟩ ⟨by omega, hx.2.2⟩ ⟨by omega, hy.2.2⟩
        have z := zceil v.1 (by omega)
        have z' := zceil v'.1 (by omega)
        rw [← z.1, ← z'.1]
        have m1 : x.toInt * b.toInt ≤ x'.toInt * b'.toInt := Int.mul_le_mul hx.2.1 hb.2.1 hb.1 (by omega)
        have m2 : y.toInt * a.toInt ≤ y'.toInt * a'.toInt := Int.mul_le_mul hy.2.1 ha.2.1 ha.1 (by omega)
        have m3 : a.toInt * b.toInt ≤ a'.toInt * b'.toInt := Int.mul_le_mul ha.2.1 hb.2.1 hb.1 (by omega)
        have V1 : (x * b + y * a + a * b).toInt ≤ (x' * b' + y' * a' + a' * b').toInt := by rw [i, i']; omega
        clear i i' m1 m2 m3
        generalize (x * b + y * a + a * b) = V at v z V1 ⊢
        generalize (x' * b' + y' * a' + a' * b') = V' at v' z' V1 ⊢
        have s1 := zoL_add (x := (V + 999) / 1000) (y := s.toInt64 / 2) rfl z.2 rfl (by omega)
        have s2 := zoL_add (x := (V + 999) / 1000 + s.toInt64 / 2) (y := 1) rfl s1 (show (1 : Int64).toInt = 1 by decide +kernel) (by omega)
        have t1 := zoL_add (x := (V' + 999) / 1000) (y := s.toInt64 / 2) rfl z'.2 rfl (by omega)
        have t2 := zoL_add (x := (V' + 999) / 1000 + s.toInt64 / 2) (y := 1) rfl t1 (show (1 : Int64).toInt = 1 by decide +kernel) (by omega)
        rw [s2, t2]
        omega
      · have q : ∀ u v w z : Int64, zEr p s.toInt64 u v w z = zMx u v := fun u v w z => by unfold zEr; rw [if_neg c0, if_neg c1, if_neg c3]
        rw [q a b x y, q a' b' x' y']
        have m1 := zMx_i a b
        have m2 := zMx_i a' b'
        omega
theorem zAmt_m {L H L2 H2 E E2 M : Int64} (l1 : L2.toInt ≤ L.toInt) (l2 : L.toInt ≤ H.toInt) (l3 : H.toInt ≤ H2.toInt) (b1 : -1000000000 ≤ L2.toInt) (b2 : H2.toInt ≤ 1000000000) (e0 : 0 ≤ E.toInt) (e1 : E.toInt ≤ E2.toInt) (e2 : E2.toInt ≤ 1000000000) (h : zMx (zAb L2) (zAb H2) + E2 ≤ M) : zMx (zAb L) (zAb H) + E ≤ M := by
  have a1 := zAb_i (x := L) (by omega)
  have a2 := zAb_i (x := H) (by omega)
  have a3 := zAb_i (x := L2) (by omega)
  have a4 := zAb_i (x := H2) (by omega)
  have m1 := zMx_i (zAb L) (zAb H)
  have m2 := zMx_i (zAb L2) (zAb H2)
  have u1 : 0 ≤ (zMx (zAb L) (zAb H)).toInt ∧ (zMx (zAb L) (zAb H)).toInt ≤ (zMx (zAb L2) (zAb H2)).toInt ∧ (zMx (zAb L2) (zAb H2)).toInt ≤ 1000000000 := by
    refine ⟨?_, ?_, ?_⟩ <;> omega
  clear a1 a2 a3 a4 m1 m2
  have s1 := zoL_add (x := zMx (zAb L) (zAb H)) (y := E) rfl rfl rfl (by omega)
  have s2 := zoL_add (x := zMx (zAb L2) (zAb H2)) (y := E2) rfl rfl rfl (by omega)
  have k := Int64.le_iff_toInt_le.mp h
  apply Int64.le_iff_toInt_le.mpr
  omega
set_option maxHeartbeats 2000000 in
theorem zLH_m {i wn cF : Int32} {mb mb' : Int64} {nN op fx al made amt lets mNN mO m1 m2 mX mW : Nat → Int32} {mA mB lo hi LO HI : Nat → Int64} (hk : zN01 i cF nN op fx al made amt lets mNN mO m1 m2 mX mW mA mB) (pa : made (2 * i + 0).toNatClampNeg = (-1) ∨ zIn lo hi LO HI (made (2 * i + 0).toNatClampNeg)) (pb : made (2 * i + 1).toNatClampNeg = (-1) ∨ zIn lo hi LO HI (made (2 * i + 1).toNatClampNeg)) (hw : op wn.toNatClampNeg = 0 ∧ 0 ≤ mb.toInt ∧ mb.toInt ≤ mb'.toInt ∧ mb'.toInt ≤ 10000000) : (zLw i op made amt LO HI - (if i = wn then mb' else 0)).toInt ≤ (zLw i op made amt lo hi - (if i = wn then mb else 0)).toInt ∧ (zLw i op made amt lo hi - (if i = wn then mb else 0)).toInt ≤ (zHg i op made amt lo hi + (if i = wn then mb else 0)).toInt ∧ (zHg i op made amt lo hi + (if i = wn then mb else 0)).toInt ≤ (zHg i op made amt LO HI + (if i = wn then mb' else 0)).toInt ∧ -6000000000000000 ≤ (zLw i op made amt LO HI - (if i = wn then mb' else 0)).toInt ∧ (zHg i op made amt LO HI + (if i = wn then mb' else 0)).toInt ≤ 6000000000000000 := by
  obtain ⟨q1, q2, q3, q4, q5, q6, q7, q8, q9, q10, q11, q12, q13, q14, q15, q16, q17⟩ := hk
  by_cases c0 : op i.toNatClampNeg = 0
  · have eL : ∀ u v : Nat → Int64, zLw i op made amt u v = (amt (2 * i + 0).toNatClampNeg).toInt64 := fun u v => by unfold zLw; rw [if_pos c0]
    have eH : ∀ u v : Nat → Int64, zHg i op made amt u v = (amt (2 * i + 1).toNatClampNeg).toInt64 := fun u v => by unfold zHg; rw [if_pos c0]
    rw [eL LO HI, eL lo hi, eH LO HI, eH lo hi]
    have k1 := Int32.le_iff_toInt_le.mp q14.1
    have k2 := Int32.le_iff_toInt_le.mp q14.2
    have k3 := Int32.le_iff_toInt_le.mp q15.1
    have k4 := Int32.le_iff_toInt_le.mp q15.2
    have k5 := Int32.le_iff_toInt_le.mp (q16 c0).2.2
    rw [show (-10000000 : Int32).toInt = -10000000 by decide +kernel] at k1 k3
    rw [show (10000000 : Int32).toInt = 10000000 by decide +kernel] at k2 k4
    have b1 : 0 ≤ (if i = wn then mb else 0).toInt ∧ (if i = wn then mb else 0).toInt ≤ (if i = wn then mb' else 0).toInt ∧ (if i = wn then mb' else 0).toInt ≤ 10000000 := by
      by_cases d : i = wn
      · rw [if_pos d, if_pos d]; exact hw.2
      · rw [if_neg d, if_neg d, zl0]; omega
    generalize (if i = wn then mb else 0) = y at b1 ⊢
    generalize (if i = wn then mb' else 0) = y' at b1 ⊢
    have g1 := z64_i (amt (2 * i + 0).toNatClampNeg)
    have g2 := z64_i (amt (2 * i + 1).toNatClampNeg)
    generalize (amt (2 * i + 0).toNatClampNeg).toInt = v1 at *
    generalize (amt (2 * i + 1).toNatClampNeg).toInt = v2 at *
    generalize (amt (2 * i + 0).toNatClampNeg).toInt64 = w1 at *
    generalize (amt (2 * i + 1).toNatClampNeg).toInt64 = w2 at *
    have s1 := zoL_sub (x := w1) (y := y) rfl g1 rfl (by omega)
    have s2 := zoL_sub (x := w1) (y := y') rfl g1 rfl (by omega)
    have s3 := zoL_add (x := w2) (y := y) rfl g2 rfl (by omega)
    have s4 := zoL_add (x := w2) (y := y') rfl g2 rfl (by omega)
    rw [s1, s2, s3, s4]
    refine ⟨?_, ?_, ?_, ?_, ?_⟩ <;> omega
  · have d : ¬ i = wn := fun w => c0 (by rw [w]; exact hw.1)
    rw [if_neg d, if_neg d, Int64.sub_zero, Int64.sub_zero, Int64.add_zero, Int64.add_zero]
    have eL : ∀ u v : Nat → Int64, zLw i op made amt u v = zLoV (op i.toNatClampNeg) (zVal (made (2 * i + 0).toNatClampNeg) (amt (2 * i + 0).toNatClampNeg) u) (zVal (made (2 * i + 0).toNatClampNeg) (amt (2 * i + 0).toNatClampNeg) v) (zVal (made (2 * i + 1).toNatClampNeg) (amt (2 * i + 1).toNatClampNeg) u) (zVal (made (2 * i + 1).toNatClampNeg) (amt (2 * i + 1).toNatClampNeg) v) := fun u v => by unfold zLw; rw [if_neg c0]
    have eH : ∀ u v : Nat → Int64, zHg i op made amt u v = zHiV (op i.toNatClampNeg) (zVal (made (2 * i + 0).toNatClampNeg) (amt (2 * i + 0).toNatClampNeg) u) (zVal (made (2 * i + 0).toNatClampNeg) (amt (2 * i + 0).toNatClampNeg) v) (zVal (made (2 * i + 1).toNatClampNeg) (amt (2 * i + 1).toNatClampNeg) u) (zVal (made (2 * i + 1).toNatClampNeg) (amt (2 * i + 1).toNatClampNeg) v) := fun u v => by unfold zHg; rw [if_neg c0]
    rw [eL LO HI, eL lo hi, eH LO HI, eH lo hi]
    obtain ⟨m1, m2, m3, m4, m5⟩ := zLoV_m (p := op i.toNatClampNeg) (zVal_m q14 pa) (zVal_m q15 pb)
    exact ⟨m1, m2, m3, by omega, by omega⟩
set_option maxHeartbeats 8000000 in
theorem zMono {cF cc cN inp : Int32} {nF nN stp mst prc al made amt op fx jn lets gof mF mN mCst mNF mNN mS mM mC mW mO m1 m2 mX mG mTr : Nat → Int32} {mA mB : Nat → Int64} {wn : Int32} {mb mb' : Int64} {lo hi LO HI er0 er1 : Nat → Int64} {ch wd wd' : Nat → Int32} {x x' : Int32 × Int32 × Int32 × (Nat → Int64)} (T : zTN cF cc cN inp nF nN stp mst prc al made amt op fx jn lets mF mN mNF mNN mS mM mC mW mCst mO m1 m2 mX mG mA mB) (R : zRN cN wn mb op made amt wd lo hi) (R' : zRN cN wn mb' op made amt wd' LO HI) (hw : op wn.toNatClampNeg = 0 ∧ 0 ≤ mb.toInt ∧ mb.toInt ≤ mb'.toInt ∧ mb'.toInt ≤ 10000000) (C : zCh cN cF gof ch mTr) (h1 : fn_X7_reckon cF cN gof ch stp op made er0 amt lo hi mst al = some x) (h2 : fn_X7_reckon cF cN gof ch stp op made er1 amt LO HI mst al = some x') (e : ¬ x'.1 = 0) : x.1 = 1 := by
  obtain ⟨⟨f1, f2, f3⟩, ⟨n1, n2, n3⟩, hC, hz, hp, hI, hf, hn, hg⟩ := T
  have hs : ∀ f : Int32, 0 ≤ f → f < cF → 1 ≤ stp f.toNatClampNeg := fun f f0 f1 => (hf f f0 f1).2.2.2.2.1.1
  unfold fn_X7_reckon at h1 h2
  revert e
  refine zl_ip2 (P := fun x x' => ¬ x'.1 = 0 → x.1 = 1) (fun s t => t.1 = s.1 ∧ 0 ≤ s.1 ∧ s.1 ≤ cN ∧ s.2.1 = 0 ∧ t.2.1 = 0 ∧ (∀ j : Int32, 0 ≤ j → j < s.1 → (0 ≤ (s.2.2 j.toNatClampNeg).toInt ∧ (s.2.2 j.toNatClampNeg).toInt ≤ (t.2.2 j.toNatClampNeg).toInt ∧ (t.2.2 j.toNatClampNeg).toInt ≤ 1000000000) ∧ zIn lo hi LO HI j)) ?_ _ _ _ _ _ _ ?_ h1 h2
  rotate_left
  · exact ⟨rfl, (show (0 : Int32) ≤ 0 by decide), n2, rfl, rfl, fun j j0 j1 => absurd j1 (by show ¬ j < 0; (first | ((try clear T); (try clear R); (try clear R'); (try clear C); (try clear h1); (try clear h2); (try clear hC); (try clear hI); (try clear hf); (try clear hn); (try clear hg); (try clear hs); grind) | grind))⟩
  intro s t k1 k2 o1 o2 ⟨R1, R2, R3, R4, R5, R7⟩ hb ho1 ho2
  obtain ⟨i, rs, er⟩ := s
  obtain ⟨k, rt, em⟩ := t
  dsimp only at R1 R2 R3 R4 R5 R7 ho1 ho2
  subst R1 R4 R5
  by_cases c : cN ≤ k
  · rw [if_pos c] at ho1
    rw [← Option.some.inj ho1]
    exact fun _ => rfl
  · rw [if_neg c] at ho1 ho2
    have hk : 0 ≤ k ∧ k < cN := ⟨R2, Int32.not_le.mp c⟩
    have h14 : 0 ≤ k ∧ k < 14 := ⟨R2, zW2 hk.2 n3⟩
    have hn1 := hn k hk.1 hk.2
    obtain ⟨-, -, t1, t2⟩ := C k hk.1 hk.2
    obtain ⟨-, g2, g3, -, g5, g6, -⟩ := hf _ t1 t2
    have ok := zOk_of hn1
    obtain ⟨q1, q2, q3, q4, q5, q6, q7, q8, q9, q10, q11, q12, q13, q14, q15, q16, q17⟩ := hn k hk.1 hk.2
    have part : ∀ m : Int32, (-1) ≤ m → m < k → m = (-1) ∨ ((0 ≤ (er m.toNatClampNeg).toInt ∧ (er m.toNatClampNeg).toInt ≤ (em m.toNatClampNeg).toInt ∧ (em m.toNatClampNeg).toInt ≤ 1000000000) ∧ zIn lo hi LO HI m) := by
      intro m m0 m1
      by_cases w : m = (-1)
      · exact Or.inl w
      · exact Or.inr (R7 m (zW1 m0 w).1 m1)
    have pa := part _ q12.1 q12.2
    have pb := part _ q13.1 q13.2
    obtain ⟨E, E2, eJ, eJ2, bE1, bE2, bE3⟩ : ∃ E E2 : Int64, fn_X7_errorOf k cF cN gof ch stp op made er amt lo hi = some E ∧ fn_X7_errorOf k cF cN gof ch stp op made em amt LO HI = some E2 ∧ 0 ≤ E.toInt ∧ E.toInt ≤ E2.toInt ∧ E2.toInt ≤ 9000000000000000 := by
      have ha := zCe_m (a := amt (2 * k + 0).toNatClampNeg) (own := (stp (mTr (made (2 * k + 0).toNatClampNeg).toNatClampNeg).toNatClampNeg).toInt64) g5 (pa.imp id (fun q => q.1))
      have hb' := zCe_m (a := amt (2 * k + 1).toNatClampNeg) (own := (stp (mTr (made (2 * k + 1).toNatClampNeg).toNatClampNeg).toNatClampNeg).toInt64) g5 (pb.imp id (fun q => q.1))
      have hxx := zAw_m q14 (pa.imp id (fun q => q.2))
      have hyy := zAw_m q15 (pb.imp id (fun q => q.2))
      have na := Int.le_trans ha.2.1 ha.2.2
      have nb := Int.le_trans hb'.2.1 hb'.2.2
      have nx := Int.le_trans hxx.2.1 hxx.2.2
      have ny := Int.le_trans hyy.2.1 hyy.2.2
      have wa := Int.le_trans ha.1 ha.2.1
      have wb := Int.le_trans hb'.1 hb'.2.1
      have wx := Int.le_trans hxx.1 hxx.2.1
      have wy := Int.le_trans hyy.1 hyy.2.1
      have eJ := zErJ (amt := amt) (er := er) (lo := lo) (hi := hi) n3 (Int32.le_refl _) f3 C hk hs ok (fun _ a b x y ea eb ex ey => by
        have v := zV_b (a := a) (b := b) (x := x) (y := y) (by rw [ea]; exact ⟨ha.1, na⟩) (by rw [eb]; exact ⟨hb'.1, nb⟩) (by rw [ex]; exact ⟨hxx.1, nx⟩) (by rw [ey]; exact ⟨hyy.1, ny⟩)
        exact ⟨v.1, by have := v.2; omega⟩)
      have eJ2 := zErJ (amt := amt) (er := em) (lo := LO) (hi := HI) n3 (Int32.le_refl _) f3 C hk hs ok (fun _ a b x y ea eb ex ey => by
        have v := zV_b (a := a) (b := b) (x := x) (y := y) (by rw [ea]; exact ⟨wa, ha.2.2⟩) (by rw [eb]; exact ⟨wb, hb'.2.2⟩) (by rw [ex]; exact ⟨wx, hxx.2.2⟩) (by rw [ey]; exact ⟨wy, hyy.2.2⟩)
        exact ⟨v.1, by have := v.2; omega⟩)
      have b1 := zEr_b (p := op k.toNatClampNeg) g5 ⟨ha.1, na⟩ ⟨hb'.1, nb⟩ ⟨hxx.1, nx⟩ ⟨hyy.1, ny⟩
      have b2 := zEr_b (p := op k.toNatClampNeg) g5 ⟨wa, ha.2.2⟩ ⟨wb, hb'.2.2⟩ ⟨wx, hxx.2.2⟩ ⟨wy, hyy.2.2⟩
      exact ⟨_, _, eJ, eJ2, b1.1, zEr_m g5 ha hb' hxx hyy, b2.2⟩
    obtain ⟨L, H, L2, H2, r1, r2, y1, y2, l1, l2, l3, l4, l5⟩ : ∃ L H L2 H2 : Int64, lo k.toNatClampNeg = zHd L ∧ hi k.toNatClampNeg = zHd H ∧ LO k.toNatClampNeg = zHd L2 ∧ HI k.toNatClampNeg = zHd H2 ∧ L2.toInt ≤ L.toInt ∧ L.toInt ≤ H.toInt ∧ H.toInt ≤ H2.toInt ∧ -6000000000000000 ≤ L2.toInt ∧ H2.toInt ≤ 6000000000000000 :=
      ⟨_, _, _, _, (R k hk.1 hk.2).1, (R k hk.1 hk.2).2.1, (R' k hk.1 hk.2).1, (R' k hk.1 hk.2).2.1, zLH_m hn1 (pa.imp id (fun q => q.2)) (pb.imp id (fun q => q.2)) hw⟩
    rw [eJ, zb_some] at ho1
    rw [eJ2, zb_some] at ho2
    obtain ⟨-, ho1⟩ := zg_s ho1
    obtain ⟨-, ho2⟩ := zg_s ho2
    rw [zFmtOf n3 C hk, zb_some, zMstOf f3 ⟨t1, t2⟩, zb_some, zAmtOf h14, zb_some] at ho1 ho2
    have eE1 : vp_updL er k.toNatClampNeg E k.toNatClampNeg = E := by rw [zupL R2 R2, if_pos rfl]
    have eE2 : vp_updL em k.toNatClampNeg E2 k.toNatClampNeg = E2 := by rw [zupL R2 R2, if_pos rfl]
    rw [eE1] at ho1
    rw [eE2] at ho2
    simp only [zn, zj] at ho1 ho2
    have bM : (mst (mTr k.toNatClampNeg).toNatClampNeg).toInt ≤ 1000000000 := by
      have := Int32.le_iff_toInt_le.mp g6.2
      rw [show (1000000000 : Int32).toInt = 1000000000 by decide +kernel] at this
      exact this
    have A2 := zAm_eq (M := mst (mTr k.toNatClampNeg).toNatClampNeg) (L := L2) (H := H2) (E := E2) ⟨l4, by omega⟩ ⟨by omega, l5⟩ ⟨by omega, bE3⟩ bM
    have A1 := zAm_eq (M := mst (mTr k.toNatClampNeg).toNatClampNeg) (L := L) (H := H) (E := E) ⟨by omega, by omega⟩ ⟨by omega, by omega⟩ ⟨bE1, by omega⟩ bM
    rw [← y1, ← y2] at A2
    rw [← r1, ← r2] at A1
    by_cases d : zMx (zAb (LO k.toNatClampNeg)) (zAb (HI k.toNatClampNeg)) + E2 ≤ (mst (mTr k.toNatClampNeg).toNatClampNeg).toInt64
    · have d2 := A2.1.mp d
      obtain ⟨w1, w2, w3, w4, w5⟩ := A2.2 d2
      have d1 := zAmt_m l1 l2 l3 w3.1 w4.2 bE1 bE2 w5 d2
      obtain ⟨v1, v2, v3, v4, v5⟩ := A1.2 d1
      have d3 := A1.1.mpr d1
      rw [if_pos ((lg_cmp_le _ _).mpr d), zIsAns n3 hk, zb_some] at ho2
      rw [if_pos ((lg_cmp_le _ _).mpr d3), zIsAns n3 hk, zb_some] at ho1
      have go : k1 (k + 1, 0, vp_updL er k.toNatClampNeg E) = some o1 → k2 (k + 1, 0, vp_updL em k.toNatClampNeg E2) = some o2 → ¬ o2.1 = 0 → o1.1 = 1 := by
        intro z1 z2
        refine hb _ _ _ _ ?_ z1 z2
        refine ⟨rfl, (zN14 hk.1 hk.2 n3).2.2.2.2.1, (zN14 hk.1 hk.2 n3).2.2.2.2.2, rfl, rfl, fun j j0 j1 => ?_⟩
        have j1 : j < k + 1 := j1
        show (0 ≤ (vp_updL er k.toNatClampNeg E j.toNatClampNeg).toInt ∧ (vp_updL er k.toNatClampNeg E j.toNatClampNeg).toInt ≤ (vp_updL em k.toNatClampNeg E2 j.toNatClampNeg).toInt ∧ (vp_updL em k.toNatClampNeg E2 j.toNatClampNeg).toInt ≤ 1000000000) ∧ zIn lo hi LO HI j
        by_cases w : j = k
        · subst w
          rw [zupL j0 j0, zupL j0 j0, if_pos rfl, if_pos rfl]
          refine ⟨⟨bE1, bE2, w5⟩, ?_⟩
          unfold zIn
          rw [v1, v2, w1, w2]
          exact ⟨w3.1, l1, l2, l3, w4.2⟩
        · rw [zupL R2 j0, zupL R2 j0, if_neg w, if_neg w]
          exact R7 j j0 ((zlt1 (zN14 hk.1 hk.2 n3).1 j1).resolve_left w)
      have e10 : ¬ (1 : Int32) = 0 := by decide
      by_cases e : al k.toNatClampNeg = (-1)
      · rw [if_pos e, if_pos rfl, if_pos trivial] at ho1 ho2
        exact go ho1 ho2
      · rw [if_neg e, if_neg e10] at ho1 ho2
        by_cases w : E2 ≤ (al k.toNatClampNeg).toInt64
        · have w' : E ≤ (al k.toNatClampNeg).toInt64 := Int64.le_iff_toInt_le.mpr (by have := Int64.le_iff_toInt_le.mp w; omega)
          rw [if_pos ((lg_cmp_le _ _).mpr w'), if_pos trivial] at ho1
          rw [if_pos ((lg_cmp_le _ _).mpr w), if_pos trivial] at ho2
          exact go ho1 ho2
        · rw [if_neg (fun q => w ((lg_cmp_le _ _).mp q)), if_neg (by decide)] at ho2
          rw [← Option.some.inj ho2]
          exact fun q => absurd rfl q
    · rw [if_neg (fun q => d ((lg_cmp_le _ _).mp q)), if_neg (by decide)] at ho2
      rw [← Option.some.inj ho2]
      exact fun q => absurd rfl q
/-! by halves: two searches of the last one that PASSES -/
noncomputable def zWy (p cF cN : Int32) (op made amt gof ch stp mst al : Nat → Int32) (v : Int32) : Prop := ∃ (g1 g2 : Nat → Int64) (g3 : Nat → Int32) (g4 : Nat → Int64) (o : Int32 × (Nat → Int64) × (Nat → Int64) × (Nat → Int32) × Int32 × Int32 × (Nat → Int64)), fn_X11_passesLonger p v cF cN op made amt g1 g2 g3 gof ch stp g4 mst al = some o ∧ ¬ o.1 = 0
noncomputable def zWn (p cF cN : Int32) (op made amt gof ch stp mst al : Nat → Int32) (v : Int32) : Prop := ∃ (g1 g2 : Nat → Int64) (g3 : Nat → Int32) (g4 : Nat → Int64) (o : Int32 × (Nat → Int64) × (Nat → Int64) × (Nat → Int32) × Int32 × Int32 × (Nat → Int64)), fn_X11_passesLonger p v cF cN op made amt g1 g2 g3 gof ch stp g4 mst al = some o ∧ o.1 = 0
noncomputable def zWb (p cF cN : Int32) (op made amt gof ch stp mst al : Nat → Int32) (v : Int32) : Prop := (0 ≤ v ∧ v ≤ 10000000) ∧ (v = 0 ∨ zWy p cF cN op made amt gof ch stp mst al v) ∧ (v = 10000000 ∨ zWn p cF cN op made amt gof ch stp mst al (v + 1))
theorem zFar {v : Int32} (hv : 0 ≤ v ∧ v ≤ 10000000) : 0 ≤ v.toInt64.toInt ∧ v.toInt64.toInt ≤ 10000000 := by
  have k1 := Int32.le_iff_toInt_le.mp hv.1
  have k2 := Int32.le_iff_toInt_le.mp hv.2
  rw [zi_0] at k1
  rw [show (10000000 : Int32).toInt = 10000000 by decide +kernel] at k2
  rw [z64_i]
  exact ⟨k1, k2⟩
theorem zPL_e {cF cc cN inp : Int32} {nF nN stp mst prc al made amt op fx jn lets gof hand mF mN mCst mNF mNN mS mM mC mW mO m1 m2 mX mG mTr : Nat → Int32} {mA mB mLe mGe mEr : Nat → Int64} {p v : Int32} {g1 g2 g4 : Nat → Int64} {g3 : Nat → Int32} {u : Int32 × (Nat → Int64) × (Nat → Int64) × (Nat → Int32) × Int32 × Int32 × (Nat → Int64)} {q : Int32 × Int32 × Int32 × (Nat → Int64) × (Nat → Int64) × (Nat → Int64)} (T : zTN cF cc cN inp nF nN stp mst prc al made amt op fx jn lets mF mN mNF mNN mS mM mC mW mCst mO m1 m2 mX mG mA mB) (hp : op p.toNatClampNeg = 0) (hv : 0 ≤ v ∧ v ≤ 10000000) (C : zCh cN cF gof hand mTr) (hu : fn_X11_passesLonger p v cF cN op made amt g1 g2 g3 gof hand stp g4 mst al = some u) (hq : fn_X12_passes p v.toInt64 mN mO m1 m2 mLe mA mB mGe mTr mS mEr mM mW = some q) : u.1 = q.1 := by
  have T0 := T
  obtain ⟨-, hN, -, -, -, -, -, hn, -⟩ := T0
  unfold fn_X11_passesLonger at hu
  obtain ⟨f, hf, hu⟩ := zb_s hu
  obtain ⟨a, ha, hu⟩ := zb_s hu
  rw [← Option.some.inj hu]
  have R := zFill hN.2 (fun i i0 i1 => zOk_of (hn i i0 i1)) hf
  exact (zPassEq T R (Or.inr ⟨hp, zFar hv⟩) C ha hq).1
theorem zWyn {cF cc cN inp : Int32} {nF nN stp mst prc al made amt op fx jn lets gof hand mF mN mCst mNF mNN mS mM mC mW mO m1 m2 mX mG mTr : Nat → Int32} {mA mB : Nat → Int64} {p v w : Int32} (T : zTN cF cc cN inp nF nN stp mst prc al made amt op fx jn lets mF mN mNF mNN mS mM mC mW mCst mO m1 m2 mX mG mA mB) (hp : op p.toNatClampNeg = 0) (C : zCh cN cF gof hand mTr) (hv : 0 ≤ v) (hw : w ≤ 10000000) (h1 : zWn p cF cN op made amt gof hand stp mst al v) (h2 : zWy p cF cN op made amt gof hand stp mst al w) : w < v := by
  obtain ⟨g1, g2, g3, g4, o, h1, e1⟩ := h1
  obtain ⟨k1, k2, k3, k4, o', h2, e2⟩ := h2
  have T0 := T
  obtain ⟨-, hN, -, -, -, -, -, hn, -⟩ := T0
  by_cases c : v ≤ w
  · exfalso
    unfold fn_X11_passesLonger at h1 h2
    obtain ⟨f, hf, h1⟩ := zb_s h1
    obtain ⟨a, ha, h1⟩ := zb_s h1
    obtain ⟨f', hf', h2⟩ := zb_s h2
    obtain ⟨a', ha', h2⟩ := zb_s h2
    rw [← Option.some.inj h1] at e1
    rw [← Option.some.inj h2] at e2
    have e1 : a.1 = 0 := e1
    have e2 : ¬ a'.1 = 0 := e2
    have R := zFill hN.2 (fun i i0 i1 => zOk_of (hn i i0 i1)) hf
    have R' := zFill hN.2 (fun i i0 i1 => zOk_of (hn i i0 i1)) hf'
    have b1 := zFar (v := v) ⟨hv, Int32.le_trans c hw⟩
    have b2 := zFar (v := w) ⟨Int32.le_trans hv c, hw⟩
    have b3 := Int32.le_iff_toInt_le.mp c
    have b4 : v.toInt64.toInt ≤ w.toInt64.toInt := by rw [z64_i, z64_i]; exact b3
    have z := zMono T R R' ⟨hp, b1.1, b4, b2.2⟩ C ha ha' e2
    rw [z] at e1
    exact absurd e1 (by decide)
  · exact Int32.not_le.mp c
theorem zWb_u {cF cc cN inp : Int32} {nF nN stp mst prc al made amt op fx jn lets gof hand mF mN mCst mNF mNN mS mM mC mW mO m1 m2 mX mG mTr : Nat → Int32} {mA mB : Nat → Int64} {p v w : Int32} (T : zTN cF cc cN inp nF nN stp mst prc al made amt op fx jn lets mF mN mNF mNN mS mM mC mW mCst mO m1 m2 mX mG mA mB) (hp : op p.toNatClampNeg = 0) (C : zCh cN cF gof hand mTr) (h1 : zWb p cF cN op made amt gof hand stp mst al v) (h2 : zWb p cF cN op made amt gof hand stp mst al w) : v = w := by
  obtain ⟨⟨a1, a2⟩, a3, a4⟩ := h1
  obtain ⟨⟨b1, b2⟩, b3, b4⟩ := h2
  by_cases l : v < w
  · exfalso
    have y := b3.resolve_left (zNz1 a1 l)
    have n := a4.resolve_left (zNm1 l b2)
    exact (zVx1 a1 l b2).2 (zWyn T hp C (zVx1 a1 l b2).1 b2 n y)
  · by_cases l2 : w < v
    · exfalso
      have y := a3.resolve_left (zNz1 b1 l2)
      have n := b4.resolve_left (zNm1 l2 a2)
      exact (zVx1 b1 l2 a2).2 (zWyn T hp C (zVx1 b1 l2 a2).1 a2 n y)
    · exact Int32.le_antisymm (Int32.not_lt.mp l2) (Int32.not_lt.mp l)
theorem zi10 : (10000000 : Int32).toInt = 10000000 := by decide +kernel
theorem zi2 : (2 : Int32).toInt = 2 := by decide +kernel
/-- the middle, as the class takes it -/
theorem zmidJ {a b : Int32} (h : 0 ≤ a ∧ a < b ∧ b ≤ 10000000) : ((a + b) / 2).toInt = (a.toInt + b.toInt) / 2 := by
  have k1 := Int32.le_iff_toInt_le.mp h.1
  have k2 := Int32.lt_iff_toInt_lt.mp h.2.1
  have k3 := Int32.le_iff_toInt_le.mp h.2.2
  rw [zi_0] at k1
  rw [zi10] at k3
  have s := zo_add (x := a) (y := b) (z := a + b) rfl rfl rfl (by omega)
  rw [Int32.toInt_div_of_ne_right _ _ (by decide), s, zi2, Int.tdiv_eq_ediv_of_nonneg (by omega)]
/-- the middle, as the reference takes it -/
theorem zmidM {a b : Int32} (h : 0 ≤ a ∧ a < b ∧ b ≤ 10000000) : (a + ((b - a) + 1) / 2).toInt = a.toInt + (b.toInt - a.toInt + 1) / 2 := by
  have k1 := Int32.le_iff_toInt_le.mp h.1
  have k2 := Int32.lt_iff_toInt_lt.mp h.2.1
  have k3 := Int32.le_iff_toInt_le.mp h.2.2
  rw [zi_0] at k1
  rw [zi10] at k3
  have s := zo_sub (x := b) (y := a) (z := b - a) rfl rfl rfl (by omega)
  have s2 := zo_add (x := b - a) (y := 1) (z := (b - a) + 1) rfl s zi_1' (by omega)
  have s3 : (((b - a) + 1) / 2).toInt = (b.toInt - a.toInt + 1) / 2 := by
    rw [Int32.toInt_div_of_ne_right _ _ (by decide), s2, zi2, Int.tdiv_eq_ediv_of_nonneg (by omega)]
  exact zo_add (x := a) (y := ((b - a) + 1) / 2) rfl rfl s3 (by omega)
theorem zhalve {g g' n : Nat} (h : g * 2 ^ n ≤ 9999999) (h2 : 2 * g' ≤ g) : g' * 2 ^ (n + 1) ≤ 9999999 := by
  have e : g' * 2 ^ (n + 1) = 2 * g' * 2 ^ n := by rw [Nat.pow_succ, Nat.mul_comm (2 ^ n) 2, ← Nat.mul_assoc, Nat.mul_comm g' 2]
  rw [e]
  exact Nat.le_trans (Nat.mul_le_mul_right _ h2) h
theorem zhalf0 {g n : Nat} (h : g * 2 ^ n ≤ 9999999) (hn : 32 ≤ n) : g = 0 := by
  have k : 2 ^ 32 ≤ 2 ^ n := Nat.pow_le_pow_right (by decide) hn
  rcases Nat.eq_zero_or_pos g with q | q
  · exact q
  · have := Nat.mul_le_mul q k
    rw [Nat.one_mul] at this
    have w : (9999999 : Nat) < 2 ^ 32 := by decide
    omega
set_option maxHeartbeats 8000000 in
theorem zeq_widest {cF cc cN inp gcl mHh mWn mFa mFw rcA rcW roA roW : Int32} {nF nN stp mst prc al made amt op fx jn lets gof gfx rwd hand mF mN mCst mNF mNN mS mM mC mW mO m1 m2 mX mG mH mTr gwd : Nat → Int32} {rlo rhi mA mB mLe mGe mEr rcE roE glo ghi : Nat → Int64} {mWb : Int64} {p1 : Int32} {x : Int32 × Int32 × Int32 × (Nat → Int64) × (Nat → Int64) × (Nat → Int64) × (Nat → Int32) × Int32 × Int32 × (Nat → Int64)} {y : Int32 × Int32 × Int64 × Int32 × Int32 × (Nat → Int32) × (Nat → Int64) × (Nat → Int64) × (Nat → Int64)} (hG : ∀ i : Nat, 0 ≤ gof i ∧ gof i ≤ 13) (T : zTN cF cc cN inp nF nN stp mst prc al made amt op fx jn lets mF mN mNF mNN mS mM mC mW mCst mO m1 m2 mX mG mA mB) (R : zRN cN (-1) 0 op made amt rwd rlo rhi) (H : zHN cN cF gcl mHh gof gfx hand mH) (h1 : fn_X11_widest p1 cF cN op gcl rcA rcW gof hand stp made rcE amt rlo rhi mst al glo ghi gwd roA roW roE = some x) (h2 : fn_X12_widest p1 mWn mWb mHh mFa mFw mN mO mH mTr m1 m2 mLe mA mB mGe mS mEr mM mW = some y) : x.1 = y.1 := by
  have hN := T.2.1
  have hF := T.1
  have T0 := T
  obtain ⟨-, -, -, -, -, -, -, hn, -⟩ := T0
  unfold fn_X11_widest at h1
  unfold fn_X12_widest at h2
  rw [zIsNum (by rw [hN.1]; exact hN.2.1), zb_some, hN.1] at h2
  by_cases d : 0 ≤ p1 ∧ p1 < cN
  · rw [if_neg (by rw [zif1]; exact fun q => q d)] at h2
    obtain ⟨-, h2⟩ := zg_s h2
    have eO := (hn p1 d.1 d.2).2.1
    have e10 : ¬ (1 : Int32) = 0 := by decide
    by_cases e : op p1.toNatClampNeg = 0
    · have eI : fn_X9_isInput p1 cN op = some 1 := by
        unfold fn_X9_isInput
        rw [zHasN, zb_some, if_neg (by rw [zif1]; exact fun q => q d), zg_in 14 (by decide +kernel) ⟨d.1, zW2 d.2 hN.2.2⟩, if_pos e]
      rw [eI, zb_some, if_neg e10] at h1
      rw [if_pos (eO.symm.trans e)] at h2
      obtain ⟨a, ha, h1⟩ := zb_s h1
      obtain ⟨b, hb, h2⟩ := zb_s h2
      rcases zHandP T R H ha hb with ⟨_, z1, z2⟩ | ⟨c, ⟨e1, -, -, -⟩, tr⟩
      · rw [if_pos z1] at h1
        rw [if_pos z2] at h2
        rw [← Option.some.inj h1, ← Option.some.inj h2]
      · have e1 : a.1 = b.1 := e1
        by_cases w : a.1 = 0
        · rw [if_pos w] at h1
          rw [if_pos (e1.symm.trans w)] at h2
          rw [← Option.some.inj h1, ← Option.some.inj h2]
        · rw [if_neg w] at h1
          rw [if_neg (fun q => w (e1.trans q))] at h2
          obtain ⟨C, -⟩ := H.2.2 c.1 c.2
          have C' := zCh_c C tr
          obtain ⟨u, hu, h1⟩ := zb_s h1
          refine zWb_u (p := p1) T e C' ?_ ?_
          · by_cases v : u.1 = 0
            · rw [if_pos v] at h1
              refine zl_ip (P := fun x : Int32 × Int32 × Int32 × (Nat → Int64) × (Nat → Int64) × (Nat → Int64) × (Nat → Int32) × Int32 × Int32 × (Nat → Int64) => zWb p1 cF cN op made amt gof hand stp mst al x.1) (fun s => 0 ≤ s.1 ∧ s.1 < s.2.1 ∧ s.2.1 ≤ 10000000 ∧ (0 ≤ s.2.2.1 ∧ s.2.2.1 ≤ 32) ∧ (s.1 = 0 ∨ zWy p1 cF cN op made amt gof hand stp mst al s.1) ∧ zWn p1 cF cN op made amt gof hand stp mst al s.2.1 ∧ ∃ g : Nat, (s.2.1.toInt : Int) = (s.1.toInt : Int) + 1 + (g : Int) ∧ g * 2 ^ s.2.2.1.toNatClampNeg ≤ 9999999) ?_ _ _ _ ?_ h1
              rotate_left
              · exact ⟨(show (0 : Int32) ≤ 0 by decide), (show (0 : Int32) < 10000000 by decide), (show (10000000 : Int32) ≤ 10000000 by decide), ⟨(show (0 : Int32) ≤ 0 by decide), (show (0 : Int32) ≤ 32 by decide)⟩, Or.inl rfl, ⟨_, _, _, _, u, hu, v⟩, 9999999, (show (10000000 : Int32).toInt = (0 : Int32).toInt + 1 + ((9999999 : Nat) : Int) by decide +kernel), (show 9999999 * 2 ^ (0 : Int32).toNatClampNeg ≤ 9999999 by decide +kernel)⟩
              intro s back o ⟨H1, H2, H3, H4, H5, H6, g, H7, H8⟩ hbk ho
              obtain ⟨good, bad, n, fa, fw, lo, hi, wd, er⟩ := s
              dsimp only at H1 H2 H3 H4 H5 H6 H7 H8 ho
              have fin : bad = good + 1 → zWb p1 cF cN op made amt gof hand stp mst al good := fun q => ⟨⟨H1, Int32.le_trans (Int32.le_of_lt H2) H3⟩, H5, Or.inr (by rw [← q]; exact H6)⟩
              by_cases k : 32 ≤ n
              · rw [if_pos k] at ho
                have n32 : n = 32 := Int32.le_antisymm H4.2 k
                have g0 := zhalf0 H8 (by rw [n32]; decide +kernel)
                rw [← Option.some.inj ho]
                refine fin (Int32.toInt_inj.mp ?_)
                have k3 := Int32.le_iff_toInt_le.mp H3
                have k1 := Int32.le_iff_toInt_le.mp H1
                rw [zi10] at k3
                rw [zi_0] at k1
                rw [zo_add (x := good) (y := 1) rfl rfl zi_1' (by omega), H7, g0]
                omega
              · rw [if_neg k] at ho
                by_cases l : bad - good ≤ 1
                · rw [if_pos l] at ho
                  rw [← Option.some.inj ho]
                  exact fin (zBg1 H1 H2 H3 l)
                · rw [if_neg l] at ho
                  obtain ⟨q, hq, ho⟩ := zb_s ho
                  have mid := zmidJ (a := good) (b := bad) ⟨H1, H2, H3⟩
                  have k1 := Int32.le_iff_toInt_le.mp H1
                  have k2 := Int32.lt_iff_toInt_lt.mp H2
                  have k3 := Int32.le_iff_toInt_le.mp H3
                  rw [zi_0] at k1
                  rw [zi10] at k3
                  have kl : good.toInt + 1 < bad.toInt := by
                    have l' : ¬ (bad - good).toInt ≤ (1 : Int32).toInt := fun q => l (Int32.le_iff_toInt_le.mpr q)
                    rw [zo_sub (x := bad) (y := good) rfl rfl rfl (by omega), zi_1'] at l'
                    omega
                  have m0 : good < (good + bad) / 2 := Int32.lt_iff_toInt_lt.mpr (by rw [mid]; omega)
                  have m1 : (good + bad) / 2 < bad := Int32.lt_iff_toInt_lt.mpr (by rw [mid]; omega)
                  have nn : (n + 1).toNatClampNeg = n.toNatClampNeg + 1 := zNx H4.1 (Int32.le_trans H4.2 (by decide))
                  by_cases r : q.1 = 0
                  · rw [if_pos r] at ho
                    refine hbk _ _ ?_ ho
                    refine ⟨H1, m0, (show (good + bad) / 2 ≤ 10000000 from Int32.le_trans (Int32.le_of_lt m1) H3), (zN32 H4.1 k), H5, ⟨_, _, _, _, q, hq, r⟩, ((good + bad) / 2).toInt.toNat - good.toInt.toNat - 1, ?_, ?_⟩
                    · show ((good + bad) / 2).toInt = good.toInt + 1 + _
                      omega
                    · show _ * 2 ^ (n + 1).toNatClampNeg ≤ _
                      rw [nn]
                      exact zhalve H8 (by omega)
                  · rw [if_neg r] at ho
                    refine hbk _ _ ?_ ho
                    refine ⟨(show 0 ≤ (good + bad) / 2 from Int32.le_trans H1 (Int32.le_of_lt m0)), m1, H3, (zN32 H4.1 k), Or.inr ⟨_, _, _, _, q, hq, r⟩, H6, bad.toInt.toNat - ((good + bad) / 2).toInt.toNat - 1, ?_, ?_⟩
                    · show bad.toInt = ((good + bad) / 2).toInt + 1 + _
                      omega
                    · show _ * 2 ^ (n + 1).toNatClampNeg ≤ _
                      rw [nn]
                      exact zhalve H8 (by omega)
            · rw [if_neg v] at h1
              rw [← Option.some.inj h1]
              exact ⟨⟨(show (0 : Int32) ≤ 10000000 by decide), (show (10000000 : Int32) ≤ 10000000 by decide)⟩, Or.inr ⟨_, _, _, _, u, hu, v⟩, Or.inl rfl⟩
          · refine zl_ip (P := fun y : Int32 × Int32 × Int64 × Int32 × Int32 × (Nat → Int32) × (Nat → Int64) × (Nat → Int64) × (Nat → Int64) => zWb p1 cF cN op made amt gof hand stp mst al y.1) (fun s => 0 ≤ s.1 ∧ s.1 ≤ s.2.1 ∧ s.2.1 ≤ 10000000 ∧ (s.1 = 0 ∨ zWy p1 cF cN op made amt gof hand stp mst al s.1) ∧ (s.2.1 = 10000000 ∨ zWn p1 cF cN op made amt gof hand stp mst al (s.2.1 + 1))) ?_ _ _ _ ?_ h2
            rotate_left
            · exact ⟨(show (0 : Int32) ≤ 0 by decide), (show (0 : Int32) ≤ 10000000 by decide), (show (10000000 : Int32) ≤ 10000000 by decide), Or.inl rfl, Or.inl rfl⟩
            intro s back o ⟨H1, H2, H3, H4, H5⟩ hbk ho
            obtain ⟨low, high, wb, fa, fw, le, ge, em⟩ := s
            dsimp only at H1 H2 H3 H4 H5 ho
            by_cases k : high ≤ low
            · rw [if_pos k] at ho
              rw [← Option.some.inj ho]
              have el : high = low := Int32.le_antisymm k H2
              subst el
              exact ⟨⟨H1, H3⟩, H4, H5⟩
            · rw [if_neg k] at ho
              obtain ⟨q, hq, ho⟩ := zb_s ho
              have mid := zmidM (a := low) (b := high) ⟨H1, Int32.not_le.mp k, H3⟩
              generalize low + (high - low + 1) / 2 = m at mid hq ho
              have k1 := Int32.le_iff_toInt_le.mp H1
              have k3 := Int32.le_iff_toInt_le.mp H3
              have k2 : ¬ high.toInt ≤ low.toInt := fun q => k (Int32.le_iff_toInt_le.mpr q)
              rw [zi_0] at k1
              rw [zi10] at k3
              have m0 : low < m := Int32.lt_iff_toInt_lt.mpr (by rw [mid]; omega)
              have m1 : m ≤ high := Int32.le_iff_toInt_le.mpr (by rw [mid]; omega)
              obtain ⟨u2, hu2, -⟩ := sf_X11_passesLonger p1 m cF cN op made amt (fun _ => 0) (fun _ => 0) (fun _ => 0) gof hand stp (fun _ => 0) mst al hF.2 hN.2 (fun _ => ⟨(show (0 : Int32) ≤ 0 by decide), (show (0 : Int32) ≤ 1 by decide)⟩) hG
              have eq := zPL_e T e ⟨Int32.le_trans H1 (Int32.le_of_lt m0), Int32.le_trans m1 H3⟩ C' hu2 hq
              by_cases r : q.1 = 0
              · rw [if_pos r] at ho
                refine hbk _ _ ?_ ho
                refine ⟨H1, (zMm1 H1 m0 (Int32.le_trans m1 H3)).1, (zMm1 H1 m0 (Int32.le_trans m1 H3)).2.1, H4, Or.inr ?_⟩
                show zWn p1 cF cN op made amt gof hand stp mst al (m - 1 + 1)
                rw [(zMm1 H1 m0 (Int32.le_trans m1 H3)).2.2.1]
                exact ⟨_, _, _, _, u2, hu2, eq.trans r⟩
              · rw [if_neg r] at ho
                refine hbk _ _ ?_ ho
                exact ⟨(zMm1 H1 m0 (Int32.le_trans m1 H3)).2.2.2, m1, H3, Or.inr ⟨_, _, _, _, u2, hu2, fun z => r (eq.symm.trans z)⟩, H5⟩
    · have eI : fn_X9_isInput p1 cN op = some 0 := by
        unfold fn_X9_isInput
        rw [zHasN, zb_some, if_neg (by rw [zif1]; exact fun q => q d), zg_in 14 (by decide +kernel) ⟨d.1, zW2 d.2 hN.2.2⟩, if_neg e]
      rw [eI, zb_some, if_pos rfl] at h1
      rw [if_neg (fun q => e (eO.trans q))] at h2
      rw [← Option.some.inj h1, ← Option.some.inj h2]
  · have eI : fn_X9_isInput p1 cN op = some 0 := by
      unfold fn_X9_isInput
      rw [zHasN, zb_some, if_pos (by rw [zif1]; exact d)]
    rw [eI, zb_some, if_pos rfl] at h1
    rw [if_pos (by rw [zif1]; exact d)] at h2
    rw [← Option.some.inj h1, ← Option.some.inj h2]
/-! what holds of both between two calls: the CHOICE at hand, what was refused, the seed, what is kept of searches -/
theorem zHN_0 {cF gcl mHh : Int32} {gof gfx hand mH : Nat → Int32} (h : mHh = 0) : zHN 0 cF gcl mHh gof gfx hand mH := ⟨fun q => absurd q (by decide), fun _ => Or.inl h, fun q => absurd q (by decide)⟩
theorem zHN_stay {cN cF gcl : Int32} {gof gfx : Nat → Int32} {mF mN mNF mNN mS mM mC mW mCst mO m1 m2 mX mG : Nat → Int32} {mA mB : Nat → Int64} {a1 a2 a3 a4 a5 b1 b2 b3 : Int32} {r1 r2 r3 r4 r5 r6 s1 s2 : Nat → Int32} {l1 l2 : Nat → Int64} {x : Int32 × Int32 × Int32 × Int32 × Int32 × Int32 × Int32 × Int32 × Int32 × Int32 × Int32 × Int32 × Int32 × Int32 × Int32 × Int32 × Int32 × (Nat → Int32) × (Nat → Int32) × (Nat → Int32) × (Nat → Int32) × (Nat → Int32) × (Nat → Int32) × (Nat → Int32) × (Nat → Int32) × (Nat → Int32) × (Nat → Int32) × (Nat → Int32) × (Nat → Int32) × Int32 × Int32 × Int32 × (Nat → Int32) × (Nat → Int32) × (Nat → Int32) × (Nat → Int64) × (Nat → Int64) × (Nat → Int32) × (Nat → Int32) × Int32 × Int32 × Int32 × Int32 × Int32 × (Nat → Int32)} {y : Int32 × Int32 × Int32 × Int64 × Int32 × Int32 × Int32 × Int32 × Int32 × Int32 × Int32 × Int32 × Int32 × Int32 × (Nat → Int32) × (Nat → Int32) × (Nat → Int32) × (Nat → Int32) × (Nat → Int32) × (Nat → Int32) × (Nat → Int32) × (Nat → Int32) × (Nat → Int32) × (Nat → Int32) × (Nat → Int32) × (Nat → Int32) × (Nat → Int32) × (Nat → Int32) × (Nat → Int64) × (Nat → Int64) × (Nat → Int32) × (Nat → Int32)} (H : zHN cN cF gcl b1 gof gfx r1 s1) (Q : zTQ a1 a2 a3 a4 a5 r1 r2 r3 r4 r5 r6 l1 l2 b1 b2 b3 s1 s2 mF mN mNF mNN mS mM mC mW mCst mO m1 m2 mX mG mA mB x y) (e : x.2.2.1 = 0) : zHN cN cF gcl y.2.2.2.2.2.1 gof gfx x.2.2.2.2.2.2.2.2.2.2.2.2.2.2.2.2.2.2.2.2.2.2.2.2.2.2.2.2.2.2.2.2.2.2.2.2.2.2.1 y.2.2.2.2.2.2.2.2.2.2.2.2.2.2.2.2.2.2.2.2.2.2.2.2.2.2.2.2.2.2.1 := by
  rcases Q with ⟨_, _, _, q1, q2, q3, _⟩ | ⟨q, _⟩
  · rw [q1, q2, q3]; exact H
  · rw [q] at e; exact absurd e (by decide)
theorem zHN_swap {mF mN mNF mNN mS mM mC mW mCst mO m1 m2 mX mG : Nat → Int32} {mA mB : Nat → Int64} {a1 a2 a3 a4 a5 b1 b2 b3 : Int32} {r1 r2 r3 r4 r5 r6 s1 s2 : Nat → Int32} {l1 l2 : Nat → Int64} {x : Int32 × Int32 × Int32 × Int32 × Int32 × Int32 × Int32 × Int32 × Int32 × Int32 × Int32 × Int32 × Int32 × Int32 × Int32 × Int32 × Int32 × (Nat → Int32) × (Nat → Int32) × (Nat → Int32) × (Nat → Int32) × (Nat → Int32) × (Nat → Int32) × (Nat → Int32) × (Nat → Int32) × (Nat → Int32) × (Nat → Int32) × (Nat → Int32) × (Nat → Int32) × Int32 × Int32 × Int32 × (Nat → Int32) × (Nat → Int32) × (Nat → Int32) × (Nat → Int64) × (Nat → Int64) × (Nat → Int32) × (Nat → Int32) × Int32 × Int32 × Int32 × Int32 × Int32 × (Nat → Int32)} {y : Int32 × Int32 × Int32 × Int64 × Int32 × Int32 × Int32 × Int32 × Int32 × Int32 × Int32 × Int32 × Int32 × Int32 × (Nat → Int32) × (Nat → Int32) × (Nat → Int32) × (Nat → Int32) × (Nat → Int32) × (Nat → Int32) × (Nat → Int32) × (Nat → Int32) × (Nat → Int32) × (Nat → Int32) × (Nat → Int32) × (Nat → Int32) × (Nat → Int32) × (Nat → Int32) × (Nat → Int64) × (Nat → Int64) × (Nat → Int32) × (Nat → Int32)} (Q : zTQ a1 a2 a3 a4 a5 r1 r2 r3 r4 r5 r6 l1 l2 b1 b2 b3 s1 s2 mF mN mNF mNN mS mM mC mW mCst mO m1 m2 mX mG mA mB x y) (e : x.2.2.1 = 1) : zHN x.2.2.2.2.2.2.2.2.2.1 x.2.2.2.2.2.2.2.1 x.2.2.2.2.2.2.2.2.2.2.2.2.2.2.2.2.2.2.2.2.2.2.2.2.2.2.2.2.2.2.2.1 y.2.2.2.2.2.1 x.2.2.2.2.2.2.2.2.2.2.2.2.2.2.2.2.2.2.2.2.2.2.2.2.2.2.2.2.2.2.2.2.1 x.2.2.2.2.2.2.2.2.2.2.2.2.2.2.2.2.2.2.2.2.2.2.2.2.2.2.2.2.2.2.2.2.2.2.1 x.2.2.2.2.2.2.2.2.2.2.2.2.2.2.2.2.2.2.2.2.2.2.2.2.2.2.2.2.2.2.2.2.2.2.2.2.2.2.1 y.2.2.2.2.2.2.2.2.2.2.2.2.2.2.2.2.2.2.2.2.2.2.2.2.2.2.2.2.2.2.1 := by
  have T := zTN_swap Q e
  have G := zGp_swap Q e
  rcases Q with ⟨q, _⟩ | ⟨_, _, _, _, _, q1, q2, _⟩
  · rw [q] at e; exact absurd e (by decide)
  · exact zHN_of T G q1 q2
theorem zRf_task {mF mN mNF mNN mS mM mC mW mCst mO m1 m2 mX mG : Nat → Int32} {mA mB : Nat → Int64} {a1 a2 a3 a4 a5 b1 b2 b3 : Int32} {r1 r2 r3 r4 r5 r6 s1 s2 : Nat → Int32} {l1 l2 : Nat → Int64} {x : Int32 × Int32 × Int32 × Int32 × Int32 × Int32 × Int32 × Int32 × Int32 × Int32 × Int32 × Int32 × Int32 × Int32 × Int32 × Int32 × Int32 × (Nat → Int32) × (Nat → Int32) × (Nat → Int32) × (Nat → Int32) × (Nat → Int32) × (Nat → Int32) × (Nat → Int32) × (Nat → Int32) × (Nat → Int32) × (Nat → Int32) × (Nat → Int32) × (Nat → Int32) × Int32 × Int32 × Int32 × (Nat → Int32) × (Nat → Int32) × (Nat → Int32) × (Nat → Int64) × (Nat → Int64) × (Nat → Int32) × (Nat → Int32) × Int32 × Int32 × Int32 × Int32 × Int32 × (Nat → Int32)} {y : Int32 × Int32 × Int32 × Int64 × Int32 × Int32 × Int32 × Int32 × Int32 × Int32 × Int32 × Int32 × Int32 × Int32 × (Nat → Int32) × (Nat → Int32) × (Nat → Int32) × (Nat → Int32) × (Nat → Int32) × (Nat → Int32) × (Nat → Int32) × (Nat → Int32) × (Nat → Int32) × (Nat → Int32) × (Nat → Int32) × (Nat → Int32) × (Nat → Int32) × (Nat → Int32) × (Nat → Int64) × (Nat → Int64) × (Nat → Int32) × (Nat → Int32)} (E : r2 = s2) (Q : zTQ a1 a2 a3 a4 a5 r1 r2 r3 r4 r5 r6 l1 l2 b1 b2 b3 s1 s2 mF mN mNF mNN mS mM mC mW mCst mO m1 m2 mX mG mA mB x y) : x.2.2.2.2.2.2.2.2.2.2.2.2.2.2.2.2.2.2.2.2.2.2.2.2.2.2.2.2.2.2.2.2.2.2.2.2.2.2.2.2.2.2.2.2 = y.2.2.2.2.2.2.2.2.2.2.2.2.2.2.2.2.2.2.2.2.2.2.2.2.2.2.2.2.2.2.2 := by
  rcases Q with ⟨_, _, _, _, _, _, _, _, _, _, _, _, _, q1, q2⟩ | ⟨_, _, _, _, _, _, _, _, _, _, _, _, _, _, q1, q2⟩
  · rw [q1, q2, E]
  · rw [q1, q2, E]
theorem zFC_stay {cF cc cN gc gfr gcl uAn uMn uBs uBp : Int32} {stp mst prc al made amt op gof gfx mF mN mCst mNF mNN mS mM mC mW mO m1 m2 mX mG uP uE : Nat → Int32} {rlo rhi mA mB : Nat → Int64} {nQP nQE : Nat} {a1 a2 a3 a4 a5 b1 b2 b3 : Int32} {r1 r2 r3 r4 r5 r6 s1 s2 : Nat → Int32} {l1 l2 : Nat → Int64} {x : Int32 × Int32 × Int32 × Int32 × Int32 × Int32 × Int32 × Int32 × Int32 × Int32 × Int32 × Int32 × Int32 × Int32 × Int32 × Int32 × Int32 × (Nat → Int32) × (Nat → Int32) × (Nat → Int32) × (Nat → Int32) × (Nat → Int32) × (Nat → Int32) × (Nat → Int32) × (Nat → Int32) × (Nat → Int32) × (Nat → Int32) × (Nat → Int32) × (Nat → Int32) × Int32 × Int32 × Int32 × (Nat → Int32) × (Nat → Int32) × (Nat → Int32) × (Nat → Int64) × (Nat → Int64) × (Nat → Int32) × (Nat → Int32) × Int32 × Int32 × Int32 × Int32 × Int32 × (Nat → Int32)} {y : Int32 × Int32 × Int32 × Int64 × Int32 × Int32 × Int32 × Int32 × Int32 × Int32 × Int32 × Int32 × Int32 × Int32 × (Nat → Int32) × (Nat → Int32) × (Nat → Int32) × (Nat → Int32) × (Nat → Int32) × (Nat → Int32) × (Nat → Int32) × (Nat → Int32) × (Nat → Int32) × (Nat → Int32) × (Nat → Int32) × (Nat → Int32) × (Nat → Int32) × (Nat → Int32) × (Nat → Int64) × (Nat → Int64) × (Nat → Int32) × (Nat → Int32)} (F : zFC cF cc cN gc gfr gcl gof gfx stp mst prc al made amt op rlo rhi a1 uAn uMn uBs uBp uP nQP uE nQE) (Q : zTQ a1 a2 a3 a4 a5 r1 r2 r3 r4 r5 r6 l1 l2 b1 b2 b3 s1 s2 mF mN mNF mNN mS mM mC mW mCst mO m1 m2 mX mG mA mB x y) (e : x.2.2.1 = 0) : zFC cF cc cN gc gfr gcl gof gfx stp mst prc al made amt op rlo rhi x.2.2.2.2.2.2.2.2.2.2.2.2.2.2.2.2.2.2.2.2.2.2.2.2.2.2.2.2.2.2.2.2.2.2.2.2.2.2.2.1 uAn uMn uBs uBp uP nQP uE nQE := by
  rcases Q with ⟨_, _, _, _, _, _, _, _, _, _, q, _⟩ | ⟨q, _⟩
  · rw [q]; exact F
  · rw [q] at e; exact absurd e (by decide)
theorem zFC_swap {cF cc cN gc gfr gcl uAn uMn uBs uBp : Int32} {stp mst prc al made amt op gof gfx mF mN mCst mNF mNN mS mM mC mW mO m1 m2 mX mG uP uE : Nat → Int32} {rlo rhi mA mB : Nat → Int64} {nQP nQE : Nat} {a1 a2 a3 a4 a5 b1 b2 b3 : Int32} {r1 r2 r3 r4 r5 r6 s1 s2 : Nat → Int32} {l1 l2 : Nat → Int64} {x : Int32 × Int32 × Int32 × Int32 × Int32 × Int32 × Int32 × Int32 × Int32 × Int32 × Int32 × Int32 × Int32 × Int32 × Int32 × Int32 × Int32 × (Nat → Int32) × (Nat → Int32) × (Nat → Int32) × (Nat → Int32) × (Nat → Int32) × (Nat → Int32) × (Nat → Int32) × (Nat → Int32) × (Nat → Int32) × (Nat → Int32) × (Nat → Int32) × (Nat → Int32) × Int32 × Int32 × Int32 × (Nat → Int32) × (Nat → Int32) × (Nat → Int32) × (Nat → Int64) × (Nat → Int64) × (Nat → Int32) × (Nat → Int32) × Int32 × Int32 × Int32 × Int32 × Int32 × (Nat → Int32)} {y : Int32 × Int32 × Int32 × Int64 × Int32 × Int32 × Int32 × Int32 × Int32 × Int32 × Int32 × Int32 × Int32 × Int32 × (Nat → Int32) × (Nat → Int32) × (Nat → Int32) × (Nat → Int32) × (Nat → Int32) × (Nat → Int32) × (Nat → Int32) × (Nat → Int32) × (Nat → Int32) × (Nat → Int32) × (Nat → Int32) × (Nat → Int32) × (Nat → Int32) × (Nat → Int32) × (Nat → Int64) × (Nat → Int64) × (Nat → Int32) × (Nat → Int32)} (Q : zTQ a1 a2 a3 a4 a5 r1 r2 r3 r4 r5 r6 l1 l2 b1 b2 b3 s1 s2 mF mN mNF mNN mS mM mC mW mCst mO m1 m2 mX mG mA mB x y) (e : x.2.2.1 = 1) : zFC cF cc cN gc gfr gcl gof gfx stp mst prc al made amt op rlo rhi x.2.2.2.2.2.2.2.2.2.2.2.2.2.2.2.2.2.2.2.2.2.2.2.2.2.2.2.2.2.2.2.2.2.2.2.2.2.2.2.1 uAn uMn uBs uBp uP nQP uE nQE := by
  rcases Q with ⟨q, _⟩ | ⟨_, _, _, _, _, _, _, _, _, _, _, q, _⟩
  · rw [q] at e; exact absurd e (by decide)
  · exact Or.inl q
theorem zLC_stay {cF cc cN gc gcl vSt vPr vTs : Int32} {stp mst prc al made amt op gof gfx mF mN mCst mNF mNN mS mM mC mW mO m1 m2 mX mG vRw : Nat → Int32} {rlo rhi mA mB : Nat → Int64} {a1 a2 a3 a4 a5 b1 b2 b3 : Int32} {r1 r2 r3 r4 r5 r6 s1 s2 : Nat → Int32} {l1 l2 : Nat → Int64} {x : Int32 × Int32 × Int32 × Int32 × Int32 × Int32 × Int32 × Int32 × Int32 × Int32 × Int32 × Int32 × Int32 × Int32 × Int32 × Int32 × Int32 × (Nat → Int32) × (Nat → Int32) × (Nat → Int32) × (Nat → Int32) × (Nat → Int32) × (Nat → Int32) × (Nat → Int32) × (Nat → Int32) × (Nat → Int32) × (Nat → Int32) × (Nat → Int32) × (Nat → Int32) × Int32 × Int32 × Int32 × (Nat → Int32) × (Nat → Int32) × (Nat → Int32) × (Nat → Int64) × (Nat → Int64) × (Nat → Int32) × (Nat → Int32) × Int32 × Int32 × Int32 × Int32 × Int32 × (Nat → Int32)} {y : Int32 × Int32 × Int32 × Int64 × Int32 × Int32 × Int32 × Int32 × Int32 × Int32 × Int32 × Int32 × Int32 × Int32 × (Nat → Int32) × (Nat → Int32) × (Nat → Int32) × (Nat → Int32) × (Nat → Int32) × (Nat → Int32) × (Nat → Int32) × (Nat → Int32) × (Nat → Int32) × (Nat → Int32) × (Nat → Int32) × (Nat → Int32) × (Nat → Int32) × (Nat → Int32) × (Nat → Int64) × (Nat → Int64) × (Nat → Int32) × (Nat → Int32)} (F : zLC cF cc cN gc gcl gof gfx stp mst prc al made amt op rlo rhi a3 vSt vPr vTs vRw) (Q : zTQ a1 a2 a3 a4 a5 r1 r2 r3 r4 r5 r6 l1 l2 b1 b2 b3 s1 s2 mF mN mNF mNN mS mM mC mW mCst mO m1 m2 mX mG mA mB x y) (e : x.2.2.1 = 0) : zLC cF cc cN gc gcl gof gfx stp mst prc al made amt op rlo rhi x.2.2.2.2.2.2.2.2.2.2.2.2.2.2.2.2.2.2.2.2.2.2.2.2.2.2.2.2.2.2.2.2.2.2.2.2.2.2.2.2.2.1 vSt vPr vTs vRw := by
  rcases Q with ⟨_, _, _, _, _, _, _, _, _, _, _, _, q, _⟩ | ⟨q, _⟩
  · rw [q]; exact F
  · rw [q] at e; exact absurd e (by decide)
theorem zLC_swap {cF cc cN gc gcl vSt vPr vTs : Int32} {stp mst prc al made amt op gof gfx mF mN mCst mNF mNN mS mM mC mW mO m1 m2 mX mG vRw : Nat → Int32} {rlo rhi mA mB : Nat → Int64} {a1 a2 a3 a4 a5 b1 b2 b3 : Int32} {r1 r2 r3 r4 r5 r6 s1 s2 : Nat → Int32} {l1 l2 : Nat → Int64} {x : Int32 × Int32 × Int32 × Int32 × Int32 × Int32 × Int32 × Int32 × Int32 × Int32 × Int32 × Int32 × Int32 × Int32 × Int32 × Int32 × Int32 × (Nat → Int32) × (Nat → Int32) × (Nat → Int32) × (Nat → Int32) × (Nat → Int32) × (Nat → Int32) × (Nat → Int32) × (Nat → Int32) × (Nat → Int32) × (Nat → Int32) × (Nat → Int32) × (Nat → Int32) × Int32 × Int32 × Int32 × (Nat → Int32) × (Nat → Int32) × (Nat → Int32) × (Nat → Int64) × (Nat → Int64) × (Nat → Int32) × (Nat → Int32) × Int32 × Int32 × Int32 × Int32 × Int32 × (Nat → Int32)} {y : Int32 × Int32 × Int32 × Int64 × Int32 × Int32 × Int32 × Int32 × Int32 × Int32 × Int32 × Int32 × Int32 × Int32 × (Nat → Int32) × (Nat → Int32) × (Nat → Int32) × (Nat → Int32) × (Nat → Int32) × (Nat → Int32) × (Nat → Int32) × (Nat → Int32) × (Nat → Int32) × (Nat → Int32) × (Nat → Int32) × (Nat → Int32) × (Nat → Int32) × (Nat → Int32) × (Nat → Int64) × (Nat → Int64) × (Nat → Int32) × (Nat → Int32)} (Q : zTQ a1 a2 a3 a4 a5 r1 r2 r3 r4 r5 r6 l1 l2 b1 b2 b3 s1 s2 mF mN mNF mNN mS mM mC mW mCst mO m1 m2 mX mG mA mB x y) (e : x.2.2.1 = 1) : zLC cF cc cN gc gcl gof gfx stp mst prc al made amt op rlo rhi x.2.2.2.2.2.2.2.2.2.2.2.2.2.2.2.2.2.2.2.2.2.2.2.2.2.2.2.2.2.2.2.2.2.2.2.2.2.2.2.2.2.1 vSt vPr vTs vRw := by
  rcases Q with ⟨q, _⟩ | ⟨_, _, _, _, _, _, _, _, _, _, _, _, _, q, _⟩
  · rw [q] at e; exact absurd e (by decide)
  · exact Or.inl q
theorem zrf_feed {p1 p2 p3 p4 p5 v w : Int32} {f1 f2 g1 g2 : Nat → Int32} {o o' : Int32 × Int32 × (Nat → Int32) × (Nat → Int32)} (e : v = w) (hv : 0 ≤ v ∧ v ≤ 1200) (E : f2 = g2) (h1 : fn_X11_feed p1 p2 p3 p4 p5 v f1 f2 = some o) (h2 : fn_X12_feed p1 p2 p3 p4 p5 w g1 g2 = some o') : o.2.2.2 = o'.2.2.2 := by
  subst e E
  unfold fn_X11_feed at h1
  unfold fn_X12_feed at h2
  by_cases c : v ≤ 1180
  · rw [if_pos c] at h1
    rw [if_pos ((zAp20 hv).mp c)] at h2
    obtain ⟨_, _, h1⟩ := zb_s h1
    obtain ⟨_, _, h1⟩ := zb_s h1
    obtain ⟨_, _, h1⟩ := zb_s h1
    obtain ⟨_, _, h1⟩ := zb_s h1
    obtain ⟨_, _, h1⟩ := zb_s h1
    obtain ⟨_, _, h2⟩ := zb_s h2
    obtain ⟨_, _, h2⟩ := zb_s h2
    obtain ⟨_, _, h2⟩ := zb_s h2
    obtain ⟨_, _, h2⟩ := zb_s h2
    obtain ⟨_, _, h2⟩ := zb_s h2
    rw [← Option.some.inj h1, ← Option.some.inj h2]
  · rw [if_neg c] at h1
    rw [if_neg (fun q => c ((zAp20 hv).mpr q))] at h2
    obtain ⟨a, ha, h1⟩ := zb_s h1
    obtain ⟨b, hb, h2⟩ := zb_s h2
    rw [← Option.some.inj h1, ← Option.some.inj h2, zref (by decide) ha, zrefM hb]
theorem zrf_end {p v w : Int32} {f g : Nat → Int32} {o o' : Int32 × Int32 × (Nat → Int32)} (e : v = w) (E : f = g) (h1 : fn_X11_end p v f = some o) (h2 : fn_X12_end p w g = some o') : o.2.2 = o'.2.2 := by
  subst e E
  unfold fn_X11_end at h1
  unfold fn_X12_end at h2
  by_cases c : p < 0
  · rw [if_pos c] at h1 h2
    obtain ⟨a, ha, h1⟩ := zb_s h1
    obtain ⟨b, hb, h2⟩ := zb_s h2
    rw [← Option.some.inj h1, ← Option.some.inj h2, zref (by decide) ha, zrefB hb]
  · rw [if_neg c] at h1 h2
    by_cases c2 : p ≤ v
    · rw [if_pos c2] at h1 h2
      rw [← Option.some.inj h1, ← Option.some.inj h2]
    · rw [if_neg c2] at h1 h2
      obtain ⟨a, ha, h1⟩ := zb_s h1
      obtain ⟨b, hb, h2⟩ := zb_s h2
      rw [← Option.some.inj h1, ← Option.some.inj h2, zref (by decide) ha, zrefB hb]
theorem zrf_seed {p v w : Int32} {f g : Nat → Int32} {o o' : Int32 × Int32 × (Nat → Int32)} (E : f = g) (h1 : fn_X11_seed p v f = some o) (h2 : fn_X12_seed p w g = some o') : o.2.2 = o'.2.2 := by
  subst E
  unfold fn_X11_seed at h1
  unfold fn_X12_seed at h2
  by_cases c : 0 ≤ p
  · rw [if_pos c] at h1 h2
    rw [← Option.some.inj h1, ← Option.some.inj h2]
  · rw [if_neg c] at h1 h2
    obtain ⟨a, ha, h1⟩ := zb_s h1
    obtain ⟨b, hb, h2⟩ := zb_s h2
    rw [← Option.some.inj h1, ← Option.some.inj h2, zref (by decide) ha, zrefB hb]
theorem zsd_seed {p v w : Int32} {f g : Nat → Int32} {o o' : Int32 × Int32 × (Nat → Int32)} (E : v = w ∧ 0 ≤ v) (h1 : fn_X11_seed p v f = some o) (h2 : fn_X12_seed p w g = some o') : o.2.1 = o'.2.1 ∧ 0 ≤ o.2.1 := by
  unfold fn_X11_seed at h1
  unfold fn_X12_seed at h2
  by_cases c : 0 ≤ p
  · rw [if_pos c] at h1 h2
    rw [← Option.some.inj h1, ← Option.some.inj h2]
    exact ⟨rfl, c⟩
  · rw [if_neg c] at h1 h2
    obtain ⟨a, ha, h1⟩ := zb_s h1
    obtain ⟨b, hb, h2⟩ := zb_s h2
    rw [← Option.some.inj h1, ← Option.some.inj h2]
    exact E
-- ===== PART A: goes FIRST, ahead of the names: the tables' words, and 'selects' of the private methods out of them =====
/-- a private method of a class that the tables say can be made, by its rows of tables_1 -/
noncomputable def lw_okq (q : MethodName × Nat) : Prop := (q.1.cls ≠ "java/lang/invoke/MethodHandle" ∧ q.1.cls ≠ "java/lang/invoke/VarHandle") ∧ Cond.instantiable q.1.cls q.2 ∈ tables_1 ∧ Cond.privateMethod q.1 ∈ tables_1 ∧ Cond.instanceMethod q.1 ∈ tables_1
theorem lnh0 : "ShortEnough" ≠ "java/lang/invoke/MethodHandle" ∧ "ShortEnough" ≠ "java/lang/invoke/VarHandle" := by decide +kernel
theorem lnh1 : "ShortEnough$Words" ≠ "java/lang/invoke/MethodHandle" ∧ "ShortEnough$Words" ≠ "java/lang/invoke/VarHandle" := by decide +kernel
theorem lnh2 : "ShortEnough$Parser" ≠ "java/lang/invoke/MethodHandle" ∧ "ShortEnough$Parser" ≠ "java/lang/invoke/VarHandle" := by decide +kernel
theorem lnh3 : "ShortEnough$Numbers" ≠ "java/lang/invoke/MethodHandle" ∧ "ShortEnough$Numbers" ≠ "java/lang/invoke/VarHandle" := by decide +kernel
theorem lnh4 : "ShortEnough$Groups" ≠ "java/lang/invoke/MethodHandle" ∧ "ShortEnough$Groups" ≠ "java/lang/invoke/VarHandle" := by decide +kernel
theorem lnh5 : "ShortEnough$Ranges" ≠ "java/lang/invoke/MethodHandle" ∧ "ShortEnough$Ranges" ≠ "java/lang/invoke/VarHandle" := by decide +kernel
theorem lnh6 : "ShortEnough$Reckoning" ≠ "java/lang/invoke/MethodHandle" ∧ "ShortEnough$Reckoning" ≠ "java/lang/invoke/VarHandle" := by decide +kernel
theorem lnh7 : "ShortEnough$FullSearch" ≠ "java/lang/invoke/MethodHandle" ∧ "ShortEnough$FullSearch" ≠ "java/lang/invoke/VarHandle" := by decide +kernel
theorem lnh8 : "ShortEnough$LocalSearch" ≠ "java/lang/invoke/MethodHandle" ∧ "ShortEnough$LocalSearch" ≠ "java/lang/invoke/VarHandle" := by decide +kernel
theorem lnh9 : "ShortEnough$CertificateReader" ≠ "java/lang/invoke/MethodHandle" ∧ "ShortEnough$CertificateReader" ≠ "java/lang/invoke/VarHandle" := by decide +kernel
theorem lnh10 : "ShortEnoughModel" ≠ "java/lang/invoke/MethodHandle" ∧ "ShortEnoughModel" ≠ "java/lang/invoke/VarHandle" := by decide +kernel
theorem ltin1 : ∀ w ∈ tables_1_1, w ∈ tables_1 := fun _ h => List.mem_append_left _ h
theorem ltin2 : ∀ w ∈ tables_1_2, w ∈ tables_1 := fun _ h => List.mem_append_right _ (List.mem_append_left _ h)
theorem ltin3 : ∀ w ∈ tables_1_3, w ∈ tables_1 := fun _ h => List.mem_append_right _ (List.mem_append_right _ (List.mem_append_left _ h))
theorem ltin4 : ∀ w ∈ tables_1_4, w ∈ tables_1 := fun _ h => List.mem_append_right _ (List.mem_append_right _ (List.mem_append_right _ (List.mem_append_left _ h)))
theorem ltin5 : ∀ w ∈ tables_1_5, w ∈ tables_1 := fun _ h => List.mem_append_right _ (List.mem_append_right _ (List.mem_append_right _ (List.mem_append_right _ (List.mem_append_left _ h))))
theorem ltin6 : ∀ w ∈ tables_1_6, w ∈ tables_1 := fun _ h => List.mem_append_right _ (List.mem_append_right _ (List.mem_append_right _ (List.mem_append_right _ (List.mem_append_right _ (List.mem_append_left _ h)))))
theorem ltin7 : ∀ w ∈ tables_1_7, w ∈ tables_1 := fun _ h => List.mem_append_right _ (List.mem_append_right _ (List.mem_append_right _ (List.mem_append_right _ (List.mem_append_right _ (List.mem_append_right _ (List.mem_append_left _ h))))))
theorem ltin8 : ∀ w ∈ tables_1_8, w ∈ tables_1 := fun _ h => List.mem_append_right _ (List.mem_append_right _ (List.mem_append_right _ (List.mem_append_right _ (List.mem_append_right _ (List.mem_append_right _ (List.mem_append_right _ (List.mem_append_left _ h)))))))
theorem ltin9 : ∀ w ∈ tables_1_9, w ∈ tables_1 := fun _ h => List.mem_append_right _ (List.mem_append_right _ (List.mem_append_right _ (List.mem_append_right _ (List.mem_append_right _ (List.mem_append_right _ (List.mem_append_right _ (List.mem_append_right _ (h))))))))
theorem lw_p0 : lw_okq (⟨"ShortEnough", "refuse", "(I)I"⟩, 16) := ⟨lnh0, ltin1 _ (List.mem_of_getElem? (i := 20) rfl), ltin3 _ (List.mem_of_getElem? (i := 74) rfl), ltin3 _ (List.mem_of_getElem? (i := 75) rfl)⟩
theorem lw_p1 : lw_okq (⟨"ShortEnough", "putBytes", "(I)V"⟩, 16) := ⟨lnh0, ltin1 _ (List.mem_of_getElem? (i := 20) rfl), ltin3 _ (List.mem_of_getElem? (i := 78) rfl), ltin3 _ (List.mem_of_getElem? (i := 79) rfl)⟩
theorem lw_p2 : lw_okq (⟨"ShortEnough$Words", "addByte", "(BI)V"⟩, 8) := ⟨lnh1, ltin1 _ (List.mem_of_getElem? (i := 34) rfl), ltin3 _ (List.mem_of_getElem? (i := 115) rfl), ltin3 _ (List.mem_of_getElem? (i := 116) rfl)⟩
theorem lw_p3 : lw_okq (⟨"ShortEnough$Words", "findOwn", "(I)I"⟩, 8) := ⟨lnh1, ltin1 _ (List.mem_of_getElem? (i := 34) rfl), ltin3 _ (List.mem_of_getElem? (i := 119) rfl), ltin3 _ (List.mem_of_getElem? (i := 120) rfl)⟩
theorem lw_p4 : lw_okq (⟨"ShortEnough$Parser", "readStatement", "(LShortEnough$Task;I)Z"⟩, 4) := ⟨lnh2, ltin1 _ (List.mem_of_getElem? (i := 28) rfl), ltin3 _ (List.mem_of_getElem? (i := 123) rfl), ltin3 _ (List.mem_of_getElem? (i := 124) rfl)⟩
theorem lw_p5 : lw_okq (⟨"ShortEnough$Parser", "stopAt", "(II)Z"⟩, 4) := ⟨lnh2, ltin1 _ (List.mem_of_getElem? (i := 28) rfl), ltin3 _ (List.mem_of_getElem? (i := 130) rfl), ltin3 _ (List.mem_of_getElem? (i := 131) rfl)⟩
theorem lw_p6 : lw_okq (⟨"ShortEnough$Parser", "readFormat", "(LShortEnough$Task;)Z"⟩, 4) := ⟨lnh2, ltin1 _ (List.mem_of_getElem? (i := 28) rfl), ltin3 _ (List.mem_of_getElem? (i := 138) rfl), ltin3 _ (List.mem_of_getElem? (i := 139) rfl)⟩
theorem lw_p7 : lw_okq (⟨"ShortEnough$Parser", "readNewName", "(LShortEnough$Task;)Z"⟩, 4) := ⟨lnh2, ltin1 _ (List.mem_of_getElem? (i := 28) rfl), ltin3 _ (List.mem_of_getElem? (i := 142) rfl), ltin3 _ (List.mem_of_getElem? (i := 143) rfl)⟩
theorem lw_p8 : lw_okq (⟨"ShortEnough$Parser", "readOwn", "(I)Z"⟩, 4) := ⟨lnh2, ltin1 _ (List.mem_of_getElem? (i := 28) rfl), ltin3 _ (List.mem_of_getElem? (i := 158) rfl), ltin3 _ (List.mem_of_getElem? (i := 159) rfl)⟩
theorem lw_p9 : lw_okq (⟨"ShortEnough$Parser", "readValue", "(ZII)Z"⟩, 4) := ⟨lnh2, ltin1 _ (List.mem_of_getElem? (i := 28) rfl), ltin3 _ (List.mem_of_getElem? (i := 167) rfl), ltin3 _ (List.mem_of_getElem? (i := 168) rfl)⟩
theorem lw_p10 : lw_okq (⟨"ShortEnough$Parser", "readCast", "(LShortEnough$Task;)Z"⟩, 4) := ⟨lnh2, ltin1 _ (List.mem_of_getElem? (i := 28) rfl), ltin3 _ (List.mem_of_getElem? (i := 180) rfl), ltin3 _ (List.mem_of_getElem? (i := 181) rfl)⟩
theorem lw_p11 : lw_okq (⟨"ShortEnough$Parser", "readBox", "(LShortEnough$Task;)Z"⟩, 4) := ⟨lnh2, ltin1 _ (List.mem_of_getElem? (i := 28) rfl), ltin3 _ (List.mem_of_getElem? (i := 184) rfl), ltin3 _ (List.mem_of_getElem? (i := 185) rfl)⟩
theorem lw_p12 : lw_okq (⟨"ShortEnough$Numbers", "letsOf", "(I)I"⟩, 10) := ⟨lnh3, ltin1 _ (List.mem_of_getElem? (i := 141) rfl), ltin3 _ (List.mem_of_getElem? (i := 198) rfl), ltin3 _ (List.mem_of_getElem? (i := 199) rfl)⟩
theorem lw_p13 : lw_okq (⟨"ShortEnough$Parser", "readLet", "(LShortEnough$Task;)Z"⟩, 4) := ⟨lnh2, ltin1 _ (List.mem_of_getElem? (i := 28) rfl), ltin3 _ (List.mem_of_getElem? (i := 203) rfl), ltin3 _ (List.mem_of_getElem? (i := 204) rfl)⟩
theorem lw_p14 : lw_okq (⟨"ShortEnough$Parser", "readSign", "(C)Z"⟩, 4) := ⟨lnh2, ltin1 _ (List.mem_of_getElem? (i := 28) rfl), ltin3 _ (List.mem_of_getElem? (i := 207) rfl), ltin3 _ (List.mem_of_getElem? (i := 208) rfl)⟩
theorem lw_p15 : lw_okq (⟨"ShortEnough$Parser", "readWhat", "(LShortEnough$Task;I)Z"⟩, 4) := ⟨lnh2, ltin1 _ (List.mem_of_getElem? (i := 28) rfl), ltin3 _ (List.mem_of_getElem? (i := 211) rfl), ltin3 _ (List.mem_of_getElem? (i := 212) rfl)⟩
noncomputable def lw_privs_1 : List (MethodName × Nat) := [(⟨"ShortEnough", "refuse", "(I)I"⟩, 16), (⟨"ShortEnough", "putBytes", "(I)V"⟩, 16), (⟨"ShortEnough$Words", "addByte", "(BI)V"⟩, 8), (⟨"ShortEnough$Words", "findOwn", "(I)I"⟩, 8), (⟨"ShortEnough$Parser", "readStatement", "(LShortEnough$Task;I)Z"⟩, 4), (⟨"ShortEnough$Parser", "stopAt", "(II)Z"⟩, 4), (⟨"ShortEnough$Parser", "readFormat", "(LShortEnough$Task;)Z"⟩, 4), (⟨"ShortEnough$Parser", "readNewName", "(LShortEnough$Task;)Z"⟩, 4), (⟨"ShortEnough$Parser", "readOwn", "(I)Z"⟩, 4), (⟨"ShortEnough$Parser", "readValue", "(ZII)Z"⟩, 4), (⟨"ShortEnough$Parser", "readCast", "(LShortEnough$Task;)Z"⟩, 4), (⟨"ShortEnough$Parser", "readBox", "(LShortEnough$Task;)Z"⟩, 4), (⟨"ShortEnough$Numbers", "letsOf", "(I)I"⟩, 10), (⟨"ShortEnough$Parser", "readLet", "(LShortEnough$Task;)Z"⟩, 4), (⟨"ShortEnough$Parser", "readSign", "(C)Z"⟩, 4), (⟨"ShortEnough$Parser", "readWhat", "(LShortEnough$Task;I)Z"⟩, 4)]
theorem lw_r1 : ∀ q ∈ lw_privs_1, lw_okq q := List.forall_mem_cons.mpr ⟨lw_p0, List.forall_mem_cons.mpr ⟨lw_p1, List.forall_mem_cons.mpr ⟨lw_p2, List.forall_mem_cons.mpr ⟨lw_p3, List.forall_mem_cons.mpr ⟨lw_p4, List.forall_mem_cons.mpr ⟨lw_p5, List.forall_mem_cons.mpr ⟨lw_p6, List.forall_mem_cons.mpr ⟨lw_p7, List.forall_mem_cons.mpr ⟨lw_p8, List.forall_mem_cons.mpr ⟨lw_p9, List.forall_mem_cons.mpr ⟨lw_p10, List.forall_mem_cons.mpr ⟨lw_p11, List.forall_mem_cons.mpr ⟨lw_p12, List.forall_mem_cons.mpr ⟨lw_p13, List.forall_mem_cons.mpr ⟨lw_p14, List.forall_mem_cons.mpr ⟨lw_p15, fun _ h => absurd h List.not_mem_nil⟩⟩⟩⟩⟩⟩⟩⟩⟩⟩⟩⟩⟩⟩⟩⟩
theorem lw_p16 : lw_okq (⟨"ShortEnough$Parser", "readKnown", "(I)Z"⟩, 4) := ⟨lnh2, ltin1 _ (List.mem_of_getElem? (i := 28) rfl), ltin3 _ (List.mem_of_getElem? (i := 215) rfl), ltin3 _ (List.mem_of_getElem? (i := 216) rfl)⟩
theorem lw_p17 : lw_okq (⟨"ShortEnough$Parser", "readOp", "()Z"⟩, 4) := ⟨lnh2, ltin1 _ (List.mem_of_getElem? (i := 28) rfl), ltin3 _ (List.mem_of_getElem? (i := 220) rfl), ltin3 _ (List.mem_of_getElem? (i := 221) rfl)⟩
theorem lw_p18 : lw_okq (⟨"ShortEnough$Parser", "readFixed", "(LShortEnough$Task;)Z"⟩, 4) := ⟨lnh2, ltin1 _ (List.mem_of_getElem? (i := 28) rfl), ltin3 _ (List.mem_of_getElem? (i := 224) rfl), ltin3 _ (List.mem_of_getElem? (i := 225) rfl)⟩
theorem lw_p19 : lw_okq (⟨"ShortEnough$Parser", "readGroup", "(LShortEnough$Task;)Z"⟩, 4) := ⟨lnh2, ltin1 _ (List.mem_of_getElem? (i := 28) rfl), ltin3 _ (List.mem_of_getElem? (i := 232) rfl), ltin3 _ (List.mem_of_getElem? (i := 233) rfl)⟩
theorem lw_p20 : lw_okq (⟨"ShortEnough$Parser", "readAnswer", "(LShortEnough$Task;)Z"⟩, 4) := ⟨lnh2, ltin1 _ (List.mem_of_getElem? (i := 28) rfl), ltin4 _ (List.mem_of_getElem? (i := 0) rfl), ltin4 _ (List.mem_of_getElem? (i := 1) rfl)⟩
theorem lw_p21 : lw_okq (⟨"ShortEnough$Groups", "earlierGroup", "(LShortEnough$Numbers;I)I"⟩, 6) := ⟨lnh4, ltin1 _ (List.mem_of_getElem? (i := 203) rfl), ltin4 _ (List.mem_of_getElem? (i := 16) rfl), ltin4 _ (List.mem_of_getElem? (i := 17) rfl)⟩
theorem lw_p22 : lw_okq (⟨"ShortEnough$Groups", "fix", "(II)V"⟩, 6) := ⟨lnh4, ltin1 _ (List.mem_of_getElem? (i := 203) rfl), ltin4 _ (List.mem_of_getElem? (i := 20) rfl), ltin4 _ (List.mem_of_getElem? (i := 21) rfl)⟩
theorem lw_p23 : lw_okq (⟨"ShortEnough$Ranges", "lowOf", "(LShortEnough$Numbers;II)J"⟩, 3) := ⟨lnh5, ltin1 _ (List.mem_of_getElem? (i := 239) rfl), ltin4 _ (List.mem_of_getElem? (i := 32) rfl), ltin4 _ (List.mem_of_getElem? (i := 33) rfl)⟩
theorem lw_p24 : lw_okq (⟨"ShortEnough$Ranges", "highOf", "(LShortEnough$Numbers;II)J"⟩, 3) := ⟨lnh5, ltin1 _ (List.mem_of_getElem? (i := 239) rfl), ltin4 _ (List.mem_of_getElem? (i := 44) rfl), ltin4 _ (List.mem_of_getElem? (i := 45) rfl)⟩
theorem lw_p25 : lw_okq (⟨"ShortEnough$Ranges", "endProduct", "(LShortEnough$Numbers;IJZ)J"⟩, 3) := ⟨lnh5, ltin1 _ (List.mem_of_getElem? (i := 239) rfl), ltin4 _ (List.mem_of_getElem? (i := 65) rfl), ltin4 _ (List.mem_of_getElem? (i := 66) rfl)⟩
theorem lw_p26 : lw_okq (⟨"ShortEnough$Ranges", "isWide", "(I)Z"⟩, 3) := ⟨lnh5, ltin1 _ (List.mem_of_getElem? (i := 239) rfl), ltin4 _ (List.mem_of_getElem? (i := 88) rfl), ltin4 _ (List.mem_of_getElem? (i := 89) rfl)⟩
theorem lw_p27 : lw_okq (⟨"ShortEnough$Reckoning", "errorBehindCast", "(LShortEnough$Task;[III)J"⟩, 3) := ⟨lnh6, ltin2 _ (List.mem_of_getElem? (i := 73) rfl), ltin4 _ (List.mem_of_getElem? (i := 232) rfl), ltin4 _ (List.mem_of_getElem? (i := 233) rfl)⟩
theorem lw_p28 : lw_okq (⟨"ShortEnough", "handPasses", "()Z"⟩, 16) := ⟨lnh0, ltin1 _ (List.mem_of_getElem? (i := 20) rfl), ltin5 _ (List.mem_of_getElem? (i := 30) rfl), ltin5 _ (List.mem_of_getElem? (i := 31) rfl)⟩
theorem lw_p29 : lw_okq (⟨"ShortEnough", "passesLonger", "(II)Z"⟩, 16) := ⟨lnh0, ltin1 _ (List.mem_of_getElem? (i := 20) rfl), ltin5 _ (List.mem_of_getElem? (i := 43) rfl), ltin5 _ (List.mem_of_getElem? (i := 44) rfl)⟩
theorem lw_p30 : lw_okq (⟨"ShortEnough$FullSearch", "searchAll", "(LShortEnough$Task;)V"⟩, 14) := ⟨lnh7, ltin2 _ (List.mem_of_getElem? (i := 96) rfl), ltin5 _ (List.mem_of_getElem? (i := 68) rfl), ltin5 _ (List.mem_of_getElem? (i := 69) rfl)⟩
theorem lw_p31 : lw_okq (⟨"ShortEnough$FullSearch", "makeRoom", "(I)V"⟩, 14) := ⟨lnh7, ltin2 _ (List.mem_of_getElem? (i := 96) rfl), ltin5 _ (List.mem_of_getElem? (i := 73) rfl), ltin5 _ (List.mem_of_getElem? (i := 74) rfl)⟩
noncomputable def lw_privs_2 : List (MethodName × Nat) := [(⟨"ShortEnough$Parser", "readKnown", "(I)Z"⟩, 4), (⟨"ShortEnough$Parser", "readOp", "()Z"⟩, 4), (⟨"ShortEnough$Parser", "readFixed", "(LShortEnough$Task;)Z"⟩, 4), (⟨"ShortEnough$Parser", "readGroup", "(LShortEnough$Task;)Z"⟩, 4), (⟨"ShortEnough$Parser", "readAnswer", "(LShortEnough$Task;)Z"⟩, 4), (⟨"ShortEnough$Groups", "earlierGroup", "(LShortEnough$Numbers;I)I"⟩, 6), (⟨"ShortEnough$Groups", "fix", "(II)V"⟩, 6), (⟨"ShortEnough$Ranges", "lowOf", "(LShortEnough$Numbers;II)J"⟩, 3), (⟨"ShortEnough$Ranges", "highOf", "(LShortEnough$Numbers;II)J"⟩, 3), (⟨"ShortEnough$Ranges", "endProduct", "(LShortEnough$Numbers;IJZ)J"⟩, 3), (⟨"ShortEnough$Ranges", "isWide", "(I)Z"⟩, 3), (⟨"ShortEnough$Reckoning", "errorBehindCast", "(LShortEnough$Task;[III)J"⟩, 3), (⟨"ShortEnough", "handPasses", "()Z"⟩, 16), (⟨"ShortEnough", "passesLonger", "(II)Z"⟩, 16), (⟨"ShortEnough$FullSearch", "searchAll", "(LShortEnough$Task;)V"⟩, 14), (⟨"ShortEnough$FullSearch", "makeRoom", "(I)V"⟩, 14)]
theorem lw_r2 : ∀ q ∈ lw_privs_2, lw_okq q := List.forall_mem_cons.mpr ⟨lw_p16, List.forall_mem_cons.mpr ⟨lw_p17, List.forall_mem_cons.mpr ⟨lw_p18, List.forall_mem_cons.mpr ⟨lw_p19, List.forall_mem_cons.mpr ⟨lw_p20, List.forall_mem_cons.mpr ⟨lw_p21, List.forall_mem_cons.mpr ⟨lw_p22, List.forall_mem_cons.mpr ⟨lw_p23, List.forall_mem_cons.mpr ⟨lw_p24, List.forall_mem_cons.mpr ⟨lw_p25, List.forall_mem_cons.mpr ⟨lw_p26, List.forall_mem_cons.mpr ⟨lw_p27, List.forall_mem_cons.mpr ⟨lw_p28, List.forall_mem_cons.mpr ⟨lw_p29, List.forall_mem_cons.mpr ⟨lw_p30, List.forall_mem_cons.mpr ⟨lw_p31, fun _ h => absurd h List.not_mem_nil⟩⟩⟩⟩⟩⟩⟩⟩⟩⟩⟩⟩⟩⟩⟩⟩
theorem lw_p32 : lw_okq (⟨"ShortEnough$FullSearch", "keep", "(LShortEnough$Task;II)V"⟩, 14) := ⟨lnh7, ltin2 _ (List.mem_of_getElem? (i := 96) rfl), ltin5 _ (List.mem_of_getElem? (i := 82) rfl), ltin5 _ (List.mem_of_getElem? (i := 83) rfl)⟩
theorem lw_p33 : lw_okq (⟨"ShortEnough$LocalSearch", "halveWith", "(LShortEnough$Task;II)V"⟩, 16) := ⟨lnh8, ltin2 _ (List.mem_of_getElem? (i := 154) rfl), ltin5 _ (List.mem_of_getElem? (i := 105) rfl), ltin5 _ (List.mem_of_getElem? (i := 106) rfl)⟩
theorem lw_p34 : lw_okq (⟨"ShortEnough$LocalSearch", "findUnchanged", "(LShortEnough$Task;)I"⟩, 16) := ⟨lnh8, ltin2 _ (List.mem_of_getElem? (i := 154) rfl), ltin5 _ (List.mem_of_getElem? (i := 109) rfl), ltin5 _ (List.mem_of_getElem? (i := 110) rfl)⟩
theorem lw_p35 : lw_okq (⟨"ShortEnough$LocalSearch", "addPart", "(II)V"⟩, 16) := ⟨lnh8, ltin2 _ (List.mem_of_getElem? (i := 154) rfl), ltin5 _ (List.mem_of_getElem? (i := 113) rfl), ltin5 _ (List.mem_of_getElem? (i := 114) rfl)⟩
theorem lw_p36 : lw_okq (⟨"ShortEnough$LocalSearch", "changePart", "(LShortEnough$Task;IIII)Z"⟩, 16) := ⟨lnh8, ltin2 _ (List.mem_of_getElem? (i := 154) rfl), ltin5 _ (List.mem_of_getElem? (i := 117) rfl), ltin5 _ (List.mem_of_getElem? (i := 118) rfl)⟩
theorem lw_p37 : lw_okq (⟨"ShortEnough$LocalSearch", "setPart", "(III)V"⟩, 16) := ⟨lnh8, ltin2 _ (List.mem_of_getElem? (i := 154) rfl), ltin5 _ (List.mem_of_getElem? (i := 121) rfl), ltin5 _ (List.mem_of_getElem? (i := 122) rfl)⟩
theorem lw_p38 : lw_okq (⟨"ShortEnough", "takeCheapest", "()Z"⟩, 16) := ⟨lnh0, ltin1 _ (List.mem_of_getElem? (i := 20) rfl), ltin5 _ (List.mem_of_getElem? (i := 142) rfl), ltin5 _ (List.mem_of_getElem? (i := 143) rfl)⟩
theorem lw_p39 : lw_okq (⟨"ShortEnough", "takeSingle", "()Z"⟩, 16) := ⟨lnh0, ltin1 _ (List.mem_of_getElem? (i := 20) rfl), ltin5 _ (List.mem_of_getElem? (i := 146) rfl), ltin5 _ (List.mem_of_getElem? (i := 147) rfl)⟩
theorem lw_p40 : lw_okq (⟨"ShortEnough$FullSearch", "cheapestBelow", "(II)I"⟩, 14) := ⟨lnh7, ltin2 _ (List.mem_of_getElem? (i := 96) rfl), ltin5 _ (List.mem_of_getElem? (i := 160) rfl), ltin5 _ (List.mem_of_getElem? (i := 161) rfl)⟩
theorem lw_p41 : lw_okq (⟨"ShortEnough$FullSearch", "errorAt", "(II)I"⟩, 14) := ⟨lnh7, ltin2 _ (List.mem_of_getElem? (i := 96) rfl), ltin5 _ (List.mem_of_getElem? (i := 164) rfl), ltin5 _ (List.mem_of_getElem? (i := 165) rfl)⟩
theorem lw_p42 : lw_okq (⟨"ShortEnough$FullSearch", "countAlike", "(III)I"⟩, 14) := ⟨lnh7, ltin2 _ (List.mem_of_getElem? (i := 96) rfl), ltin5 _ (List.mem_of_getElem? (i := 168) rfl), ltin5 _ (List.mem_of_getElem? (i := 169) rfl)⟩
theorem lw_p43 : lw_okq (⟨"ShortEnough$CertificateReader", "whyNot", "(LShortEnough$Task;II[B)I"⟩, 5) := ⟨lnh9, ltin2 _ (List.mem_of_getElem? (i := 218) rfl), ltin5 _ (List.mem_of_getElem? (i := 199) rfl), ltin5 _ (List.mem_of_getElem? (i := 200) rfl)⟩
theorem lw_p44 : lw_okq (⟨"ShortEnoughModel", "refuses", "(I)I"⟩, 67) := ⟨lnh10, ltin6 _ (List.mem_of_getElem? (i := 14) rfl), ltin6 _ (List.mem_of_getElem? (i := 226) rfl), ltin6 _ (List.mem_of_getElem? (i := 227) rfl)⟩
theorem lw_p45 : lw_okq (⟨"ShortEnoughModel", "lays", "(I)V"⟩, 67) := ⟨lnh10, ltin6 _ (List.mem_of_getElem? (i := 14) rfl), ltin6 _ (List.mem_of_getElem? (i := 230) rfl), ltin6 _ (List.mem_of_getElem? (i := 231) rfl)⟩
theorem lw_p46 : lw_okq (⟨"ShortEnoughModel", "isRefused", "(I)Z"⟩, 67) := ⟨lnh10, ltin6 _ (List.mem_of_getElem? (i := 14) rfl), ltin6 _ (List.mem_of_getElem? (i := 238) rfl), ltin6 _ (List.mem_of_getElem? (i := 239) rfl)⟩
theorem lw_p47 : lw_okq (⟨"ShortEnoughModel", "goesWell", "()Z"⟩, 67) := ⟨lnh10, ltin6 _ (List.mem_of_getElem? (i := 14) rfl), ltin7 _ (List.mem_of_getElem? (i := 6) rfl), ltin7 _ (List.mem_of_getElem? (i := 7) rfl)⟩
noncomputable def lw_privs_3 : List (MethodName × Nat) := [(⟨"ShortEnough$FullSearch", "keep", "(LShortEnough$Task;II)V"⟩, 14), (⟨"ShortEnough$LocalSearch", "halveWith", "(LShortEnough$Task;II)V"⟩, 16), (⟨"ShortEnough$LocalSearch", "findUnchanged", "(LShortEnough$Task;)I"⟩, 16), (⟨"ShortEnough$LocalSearch", "addPart", "(II)V"⟩, 16), (⟨"ShortEnough$LocalSearch", "changePart", "(LShortEnough$Task;IIII)Z"⟩, 16), (⟨"ShortEnough$LocalSearch", "setPart", "(III)V"⟩, 16), (⟨"ShortEnough", "takeCheapest", "()Z"⟩, 16), (⟨"ShortEnough", "takeSingle", "()Z"⟩, 16), (⟨"ShortEnough$FullSearch", "cheapestBelow", "(II)I"⟩, 14), (⟨"ShortEnough$FullSearch", "errorAt", "(II)I"⟩, 14), (⟨"ShortEnough$FullSearch", "countAlike", "(III)I"⟩, 14), (⟨"ShortEnough$CertificateReader", "whyNot", "(LShortEnough$Task;II[B)I"⟩, 5), (⟨"ShortEnoughModel", "refuses", "(I)I"⟩, 67), (⟨"ShortEnoughModel", "lays", "(I)V"⟩, 67), (⟨"ShortEnoughModel", "isRefused", "(I)Z"⟩, 67), (⟨"ShortEnoughModel", "goesWell", "()Z"⟩, 67)]
theorem lw_r3 : ∀ q ∈ lw_privs_3, lw_okq q := List.forall_mem_cons.mpr ⟨lw_p32, List.forall_mem_cons.mpr ⟨lw_p33, List.forall_mem_cons.mpr ⟨lw_p34, List.forall_mem_cons.mpr ⟨lw_p35, List.forall_mem_cons.mpr ⟨lw_p36, List.forall_mem_cons.mpr ⟨lw_p37, List.forall_mem_cons.mpr ⟨lw_p38, List.forall_mem_cons.mpr ⟨lw_p39, List.forall_mem_cons.mpr ⟨lw_p40, List.forall_mem_cons.mpr ⟨lw_p41, List.forall_mem_cons.mpr ⟨lw_p42, List.forall_mem_cons.mpr ⟨lw_p43, List.forall_mem_cons.mpr ⟨lw_p44, List.forall_mem_cons.mpr ⟨lw_p45, List.forall_mem_cons.mpr ⟨lw_p46, List.forall_mem_cons.mpr ⟨lw_p47, fun _ h => absurd h List.not_mem_nil⟩⟩⟩⟩⟩⟩⟩⟩⟩⟩⟩⟩⟩⟩⟩⟩
theorem lw_p48 : lw_okq (⟨"ShortEnoughModel", "here", "()I"⟩, 67) := ⟨lnh10, ltin6 _ (List.mem_of_getElem? (i := 14) rfl), ltin7 _ (List.mem_of_getElem? (i := 10) rfl), ltin7 _ (List.mem_of_getElem? (i := 11) rfl)⟩
theorem lw_p49 : lw_okq (⟨"ShortEnoughModel", "byteAt", "(I)I"⟩, 67) := ⟨lnh10, ltin6 _ (List.mem_of_getElem? (i := 14) rfl), ltin7 _ (List.mem_of_getElem? (i := 14) rfl), ltin7 _ (List.mem_of_getElem? (i := 15) rfl)⟩
theorem lw_p50 : lw_okq (⟨"ShortEnoughModel", "readsStatement", "(I)V"⟩, 67) := ⟨lnh10, ltin6 _ (List.mem_of_getElem? (i := 14) rfl), ltin7 _ (List.mem_of_getElem? (i := 18) rfl), ltin7 _ (List.mem_of_getElem? (i := 19) rfl)⟩
theorem lw_p51 : lw_okq (⟨"ShortEnoughModel", "word", "()V"⟩, 67) := ⟨lnh10, ltin6 _ (List.mem_of_getElem? (i := 14) rfl), ltin7 _ (List.mem_of_getElem? (i := 22) rfl), ltin7 _ (List.mem_of_getElem? (i := 23) rfl)⟩
theorem lw_p52 : lw_okq (⟨"ShortEnoughModel", "isSmall", "(I)Z"⟩, 67) := ⟨lnh10, ltin6 _ (List.mem_of_getElem? (i := 14) rfl), ltin7 _ (List.mem_of_getElem? (i := 26) rfl), ltin7 _ (List.mem_of_getElem? (i := 27) rfl)⟩
theorem lw_p53 : lw_okq (⟨"ShortEnoughModel", "isDigit", "(I)Z"⟩, 67) := ⟨lnh10, ltin6 _ (List.mem_of_getElem? (i := 14) rfl), ltin7 _ (List.mem_of_getElem? (i := 30) rfl), ltin7 _ (List.mem_of_getElem? (i := 31) rfl)⟩
theorem lw_p54 : lw_okq (⟨"ShortEnoughModel", "faults", "(II)V"⟩, 67) := ⟨lnh10, ltin6 _ (List.mem_of_getElem? (i := 14) rfl), ltin7 _ (List.mem_of_getElem? (i := 34) rfl), ltin7 _ (List.mem_of_getElem? (i := 35) rfl)⟩
theorem lw_p55 : lw_okq (⟨"ShortEnoughModel", "own", "()I"⟩, 67) := ⟨lnh10, ltin6 _ (List.mem_of_getElem? (i := 14) rfl), ltin7 _ (List.mem_of_getElem? (i := 38) rfl), ltin7 _ (List.mem_of_getElem? (i := 39) rfl)⟩
theorem lw_p56 : lw_okq (⟨"ShortEnoughModel", "readsFormat", "()V"⟩, 67) := ⟨lnh10, ltin6 _ (List.mem_of_getElem? (i := 14) rfl), ltin7 _ (List.mem_of_getElem? (i := 45) rfl), ltin7 _ (List.mem_of_getElem? (i := 46) rfl)⟩
theorem lw_p57 : lw_okq (⟨"ShortEnoughModel", "newName", "()I"⟩, 67) := ⟨lnh10, ltin6 _ (List.mem_of_getElem? (i := 14) rfl), ltin7 _ (List.mem_of_getElem? (i := 49) rfl), ltin7 _ (List.mem_of_getElem? (i := 50) rfl)⟩
theorem lw_p58 : lw_okq (⟨"ShortEnoughModel", "name", "()I"⟩, 67) := ⟨lnh10, ltin6 _ (List.mem_of_getElem? (i := 14) rfl), ltin7 _ (List.mem_of_getElem? (i := 53) rfl), ltin7 _ (List.mem_of_getElem? (i := 54) rfl)⟩
theorem lw_p59 : lw_okq (⟨"ShortEnoughModel", "formatNamed", "(I)I"⟩, 67) := ⟨lnh10, ltin6 _ (List.mem_of_getElem? (i := 14) rfl), ltin7 _ (List.mem_of_getElem? (i := 57) rfl), ltin7 _ (List.mem_of_getElem? (i := 58) rfl)⟩
theorem lw_p60 : lw_okq (⟨"ShortEnoughModel", "f", "(I)I"⟩, 67) := ⟨lnh10, ltin6 _ (List.mem_of_getElem? (i := 14) rfl), ltin7 _ (List.mem_of_getElem? (i := 61) rfl), ltin7 _ (List.mem_of_getElem? (i := 62) rfl)⟩
theorem lw_p61 : lw_okq (⟨"ShortEnoughModel", "numberNamed", "(I)I"⟩, 67) := ⟨lnh10, ltin6 _ (List.mem_of_getElem? (i := 14) rfl), ltin7 _ (List.mem_of_getElem? (i := 65) rfl), ltin7 _ (List.mem_of_getElem? (i := 66) rfl)⟩
theorem lw_p62 : lw_okq (⟨"ShortEnoughModel", "n", "(I)I"⟩, 67) := ⟨lnh10, ltin6 _ (List.mem_of_getElem? (i := 14) rfl), ltin7 _ (List.mem_of_getElem? (i := 69) rfl), ltin7 _ (List.mem_of_getElem? (i := 70) rfl)⟩
theorem lw_p63 : lw_okq (⟨"ShortEnoughModel", "must", "(I)V"⟩, 67) := ⟨lnh10, ltin6 _ (List.mem_of_getElem? (i := 14) rfl), ltin7 _ (List.mem_of_getElem? (i := 73) rfl), ltin7 _ (List.mem_of_getElem? (i := 74) rfl)⟩
noncomputable def lw_privs_4 : List (MethodName × Nat) := [(⟨"ShortEnoughModel", "here", "()I"⟩, 67), (⟨"ShortEnoughModel", "byteAt", "(I)I"⟩, 67), (⟨"ShortEnoughModel", "readsStatement", "(I)V"⟩, 67), (⟨"ShortEnoughModel", "word", "()V"⟩, 67), (⟨"ShortEnoughModel", "isSmall", "(I)Z"⟩, 67), (⟨"ShortEnoughModel", "isDigit", "(I)Z"⟩, 67), (⟨"ShortEnoughModel", "faults", "(II)V"⟩, 67), (⟨"ShortEnoughModel", "own", "()I"⟩, 67), (⟨"ShortEnoughModel", "readsFormat", "()V"⟩, 67), (⟨"ShortEnoughModel", "newName", "()I"⟩, 67), (⟨"ShortEnoughModel", "name", "()I"⟩, 67), (⟨"ShortEnoughModel", "formatNamed", "(I)I"⟩, 67), (⟨"ShortEnoughModel", "f", "(I)I"⟩, 67), (⟨"ShortEnoughModel", "numberNamed", "(I)I"⟩, 67), (⟨"ShortEnoughModel", "n", "(I)I"⟩, 67), (⟨"ShortEnoughModel", "must", "(I)V"⟩, 67)]
theorem lw_r4 : ∀ q ∈ lw_privs_4, lw_okq q := List.forall_mem_cons.mpr ⟨lw_p48, List.forall_mem_cons.mpr ⟨lw_p49, List.forall_mem_cons.mpr ⟨lw_p50, List.forall_mem_cons.mpr ⟨lw_p51, List.forall_mem_cons.mpr ⟨lw_p52, List.forall_mem_cons.mpr ⟨lw_p53, List.forall_mem_cons.mpr ⟨lw_p54, List.forall_mem_cons.mpr ⟨lw_p55, List.forall_mem_cons.mpr ⟨lw_p56, List.forall_mem_cons.mpr ⟨lw_p57, List.forall_mem_cons.mpr ⟨lw_p58, List.forall_mem_cons.mpr ⟨lw_p59, List.forall_mem_cons.mpr ⟨lw_p60, List.forall_mem_cons.mpr ⟨lw_p61, List.forall_mem_cons.mpr ⟨lw_p62, List.forall_mem_cons.mpr ⟨lw_p63, fun _ h => absurd h List.not_mem_nil⟩⟩⟩⟩⟩⟩⟩⟩⟩⟩⟩⟩⟩⟩⟩⟩
theorem lw_p64 : lw_okq (⟨"ShortEnoughModel", "number", "(JJ)J"⟩, 67) := ⟨lnh10, ltin6 _ (List.mem_of_getElem? (i := 14) rfl), ltin7 _ (List.mem_of_getElem? (i := 78) rfl), ltin7 _ (List.mem_of_getElem? (i := 79) rfl)⟩
theorem lw_p65 : lw_okq (⟨"ShortEnoughModel", "digits", "()J"⟩, 67) := ⟨lnh10, ltin6 _ (List.mem_of_getElem? (i := 14) rfl), ltin7 _ (List.mem_of_getElem? (i := 82) rfl), ltin7 _ (List.mem_of_getElem? (i := 83) rfl)⟩
theorem lw_p66 : lw_okq (⟨"ShortEnoughModel", "readsInput", "()V"⟩, 67) := ⟨lnh10, ltin6 _ (List.mem_of_getElem? (i := 14) rfl), ltin7 _ (List.mem_of_getElem? (i := 93) rfl), ltin7 _ (List.mem_of_getElem? (i := 94) rfl)⟩
theorem lw_p67 : lw_okq (⟨"ShortEnoughModel", "signed", "(JJ)J"⟩, 67) := ⟨lnh10, ltin6 _ (List.mem_of_getElem? (i := 14) rfl), ltin7 _ (List.mem_of_getElem? (i := 99) rfl), ltin7 _ (List.mem_of_getElem? (i := 100) rfl)⟩
theorem lw_p68 : lw_okq (⟨"ShortEnoughModel", "newNumber", "(II)V"⟩, 67) := ⟨lnh10, ltin6 _ (List.mem_of_getElem? (i := 14) rfl), ltin7 _ (List.mem_of_getElem? (i := 103) rfl), ltin7 _ (List.mem_of_getElem? (i := 104) rfl)⟩
theorem lw_p69 : lw_okq (⟨"ShortEnoughModel", "readsLet", "()V"⟩, 67) := ⟨lnh10, ltin6 _ (List.mem_of_getElem? (i := 14) rfl), ltin7 _ (List.mem_of_getElem? (i := 107) rfl), ltin7 _ (List.mem_of_getElem? (i := 108) rfl)⟩
theorem lw_p70 : lw_okq (⟨"ShortEnoughModel", "mark", "(I)V"⟩, 67) := ⟨lnh10, ltin6 _ (List.mem_of_getElem? (i := 14) rfl), ltin7 _ (List.mem_of_getElem? (i := 111) rfl), ltin7 _ (List.mem_of_getElem? (i := 112) rfl)⟩
theorem lw_p71 : lw_okq (⟨"ShortEnoughModel", "readsWhat", "()I"⟩, 67) := ⟨lnh10, ltin6 _ (List.mem_of_getElem? (i := 14) rfl), ltin7 _ (List.mem_of_getElem? (i := 115) rfl), ltin7 _ (List.mem_of_getElem? (i := 116) rfl)⟩
theorem lw_p72 : lw_okq (⟨"ShortEnoughModel", "toldNumber", "()I"⟩, 67) := ⟨lnh10, ltin6 _ (List.mem_of_getElem? (i := 14) rfl), ltin7 _ (List.mem_of_getElem? (i := 120) rfl), ltin7 _ (List.mem_of_getElem? (i := 121) rfl)⟩
theorem lw_p73 : lw_okq (⟨"ShortEnoughModel", "readsOp", "()I"⟩, 67) := ⟨lnh10, ltin6 _ (List.mem_of_getElem? (i := 14) rfl), ltin7 _ (List.mem_of_getElem? (i := 124) rfl), ltin7 _ (List.mem_of_getElem? (i := 125) rfl)⟩
theorem lw_p74 : lw_okq (⟨"ShortEnoughModel", "readsFixed", "()V"⟩, 67) := ⟨lnh10, ltin6 _ (List.mem_of_getElem? (i := 14) rfl), ltin7 _ (List.mem_of_getElem? (i := 128) rfl), ltin7 _ (List.mem_of_getElem? (i := 129) rfl)⟩
theorem lw_p75 : lw_okq (⟨"ShortEnoughModel", "readsGroup", "()V"⟩, 67) := ⟨lnh10, ltin6 _ (List.mem_of_getElem? (i := 14) rfl), ltin7 _ (List.mem_of_getElem? (i := 132) rfl), ltin7 _ (List.mem_of_getElem? (i := 133) rfl)⟩
theorem lw_p76 : lw_okq (⟨"ShortEnoughModel", "readsAnswer", "()V"⟩, 67) := ⟨lnh10, ltin6 _ (List.mem_of_getElem? (i := 14) rfl), ltin7 _ (List.mem_of_getElem? (i := 139) rfl), ltin7 _ (List.mem_of_getElem? (i := 140) rfl)⟩
theorem lw_p77 : lw_okq (⟨"ShortEnoughModel", "copiesTask", "()V"⟩, 67) := ⟨lnh10, ltin6 _ (List.mem_of_getElem? (i := 14) rfl), ltin7 _ (List.mem_of_getElem? (i := 143) rfl), ltin7 _ (List.mem_of_getElem? (i := 144) rfl)⟩
theorem lw_p78 : lw_okq (⟨"ShortEnoughModel", "beginsChoice", "()V"⟩, 67) := ⟨lnh10, ltin6 _ (List.mem_of_getElem? (i := 14) rfl), ltin7 _ (List.mem_of_getElem? (i := 147) rfl), ltin7 _ (List.mem_of_getElem? (i := 148) rfl)⟩
theorem lw_p79 : lw_okq (⟨"ShortEnoughModel", "laysFree", "()V"⟩, 67) := ⟨lnh10, ltin6 _ (List.mem_of_getElem? (i := 14) rfl), ltin7 _ (List.mem_of_getElem? (i := 159) rfl), ltin7 _ (List.mem_of_getElem? (i := 160) rfl)⟩
noncomputable def lw_privs_5 : List (MethodName × Nat) := [(⟨"ShortEnoughModel", "number", "(JJ)J"⟩, 67), (⟨"ShortEnoughModel", "digits", "()J"⟩, 67), (⟨"ShortEnoughModel", "readsInput", "()V"⟩, 67), (⟨"ShortEnoughModel", "signed", "(JJ)J"⟩, 67), (⟨"ShortEnoughModel", "newNumber", "(II)V"⟩, 67), (⟨"ShortEnoughModel", "readsLet", "()V"⟩, 67), (⟨"ShortEnoughModel", "mark", "(I)V"⟩, 67), (⟨"ShortEnoughModel", "readsWhat", "()I"⟩, 67), (⟨"ShortEnoughModel", "toldNumber", "()I"⟩, 67), (⟨"ShortEnoughModel", "readsOp", "()I"⟩, 67), (⟨"ShortEnoughModel", "readsFixed", "()V"⟩, 67), (⟨"ShortEnoughModel", "readsGroup", "()V"⟩, 67), (⟨"ShortEnoughModel", "readsAnswer", "()V"⟩, 67), (⟨"ShortEnoughModel", "copiesTask", "()V"⟩, 67), (⟨"ShortEnoughModel", "beginsChoice", "()V"⟩, 67), (⟨"ShortEnoughModel", "laysFree", "()V"⟩, 67)]
theorem lw_r5 : ∀ q ∈ lw_privs_5, lw_okq q := List.forall_mem_cons.mpr ⟨lw_p64, List.forall_mem_cons.mpr ⟨lw_p65, List.forall_mem_cons.mpr ⟨lw_p66, List.forall_mem_cons.mpr ⟨lw_p67, List.forall_mem_cons.mpr ⟨lw_p68, List.forall_mem_cons.mpr ⟨lw_p69, List.forall_mem_cons.mpr ⟨lw_p70, List.forall_mem_cons.mpr ⟨lw_p71, List.forall_mem_cons.mpr ⟨lw_p72, List.forall_mem_cons.mpr ⟨lw_p73, List.forall_mem_cons.mpr ⟨lw_p74, List.forall_mem_cons.mpr ⟨lw_p75, List.forall_mem_cons.mpr ⟨lw_p76, List.forall_mem_cons.mpr ⟨lw_p77, List.forall_mem_cons.mpr ⟨lw_p78, List.forall_mem_cons.mpr ⟨lw_p79, fun _ h => absurd h List.not_mem_nil⟩⟩⟩⟩⟩⟩⟩⟩⟩⟩⟩⟩⟩⟩⟩⟩
theorem lw_p80 : lw_okq (⟨"ShortEnoughModel", "isFree", "(I)Z"⟩, 67) := ⟨lnh10, ltin6 _ (List.mem_of_getElem? (i := 14) rfl), ltin7 _ (List.mem_of_getElem? (i := 163) rfl), ltin7 _ (List.mem_of_getElem? (i := 164) rfl)⟩
theorem lw_p81 : lw_okq (⟨"ShortEnoughModel", "inputs", "()I"⟩, 67) := ⟨lnh10, ltin6 _ (List.mem_of_getElem? (i := 14) rfl), ltin7 _ (List.mem_of_getElem? (i := 167) rfl), ltin7 _ (List.mem_of_getElem? (i := 168) rfl)⟩
theorem lw_p82 : lw_okq (⟨"ShortEnoughModel", "answers", "()I"⟩, 67) := ⟨lnh10, ltin6 _ (List.mem_of_getElem? (i := 14) rfl), ltin7 _ (List.mem_of_getElem? (i := 171) rfl), ltin7 _ (List.mem_of_getElem? (i := 172) rfl)⟩
theorem lw_p83 : lw_okq (⟨"ShortEnoughModel", "groups", "()I"⟩, 67) := ⟨lnh10, ltin6 _ (List.mem_of_getElem? (i := 14) rfl), ltin7 _ (List.mem_of_getElem? (i := 175) rfl), ltin7 _ (List.mem_of_getElem? (i := 176) rfl)⟩
theorem lw_p84 : lw_okq (⟨"ShortEnoughModel", "isFormat", "(I)Z"⟩, 67) := ⟨lnh10, ltin6 _ (List.mem_of_getElem? (i := 14) rfl), ltin7 _ (List.mem_of_getElem? (i := 183) rfl), ltin7 _ (List.mem_of_getElem? (i := 184) rfl)⟩
theorem lw_p85 : lw_okq (⟨"ShortEnoughModel", "isNumber", "(I)Z"⟩, 67) := ⟨lnh10, ltin6 _ (List.mem_of_getElem? (i := 14) rfl), ltin7 _ (List.mem_of_getElem? (i := 187) rfl), ltin7 _ (List.mem_of_getElem? (i := 188) rfl)⟩
theorem lw_p86 : lw_okq (⟨"ShortEnoughModel", "groupPlace", "(I)I"⟩, 67) := ⟨lnh10, ltin6 _ (List.mem_of_getElem? (i := 14) rfl), ltin7 _ (List.mem_of_getElem? (i := 200) rfl), ltin7 _ (List.mem_of_getElem? (i := 201) rfl)⟩
theorem lw_p87 : lw_okq (⟨"ShortEnoughModel", "isGreatPart", "(I)Z"⟩, 67) := ⟨lnh10, ltin6 _ (List.mem_of_getElem? (i := 14) rfl), ltin7 _ (List.mem_of_getElem? (i := 213) rfl), ltin7 _ (List.mem_of_getElem? (i := 214) rfl)⟩
theorem lw_p88 : lw_okq (⟨"ShortEnoughModel", "laysRange", "(I)V"⟩, 67) := ⟨lnh10, ltin6 _ (List.mem_of_getElem? (i := 14) rfl), ltin7 _ (List.mem_of_getElem? (i := 217) rfl), ltin7 _ (List.mem_of_getElem? (i := 218) rfl)⟩
theorem lw_p89 : lw_okq (⟨"ShortEnoughModel", "lowOf", "(IZ)J"⟩, 67) := ⟨lnh10, ltin6 _ (List.mem_of_getElem? (i := 14) rfl), ltin7 _ (List.mem_of_getElem? (i := 221) rfl), ltin7 _ (List.mem_of_getElem? (i := 222) rfl)⟩
theorem lw_p90 : lw_okq (⟨"ShortEnoughModel", "highOf", "(IZ)J"⟩, 67) := ⟨lnh10, ltin6 _ (List.mem_of_getElem? (i := 14) rfl), ltin7 _ (List.mem_of_getElem? (i := 225) rfl), ltin7 _ (List.mem_of_getElem? (i := 226) rfl)⟩
theorem lw_p91 : lw_okq (⟨"ShortEnoughModel", "mostOf", "(I)J"⟩, 67) := ⟨lnh10, ltin6 _ (List.mem_of_getElem? (i := 14) rfl), ltin8 _ (List.mem_of_getElem? (i := 4) rfl), ltin8 _ (List.mem_of_getElem? (i := 5) rfl)⟩
theorem lw_p92 : lw_okq (⟨"ShortEnoughModel", "deepOf", "(I)I"⟩, 67) := ⟨lnh10, ltin6 _ (List.mem_of_getElem? (i := 14) rfl), ltin8 _ (List.mem_of_getElem? (i := 19) rfl), ltin8 _ (List.mem_of_getElem? (i := 20) rfl)⟩
theorem lw_p93 : lw_okq (⟨"ShortEnoughModel", "isThere", "()Z"⟩, 67) := ⟨lnh10, ltin6 _ (List.mem_of_getElem? (i := 14) rfl), ltin8 _ (List.mem_of_getElem? (i := 35) rfl), ltin8 _ (List.mem_of_getElem? (i := 36) rfl)⟩
theorem lw_p94 : lw_okq (⟨"ShortEnoughModel", "triesHand", "()V"⟩, 67) := ⟨lnh10, ltin6 _ (List.mem_of_getElem? (i := 14) rfl), ltin8 _ (List.mem_of_getElem? (i := 39) rfl), ltin8 _ (List.mem_of_getElem? (i := 40) rfl)⟩
theorem lw_p95 : lw_okq (⟨"ShortEnoughModel", "costTried", "()I"⟩, 67) := ⟨lnh10, ltin6 _ (List.mem_of_getElem? (i := 14) rfl), ltin8 _ (List.mem_of_getElem? (i := 43) rfl), ltin8 _ (List.mem_of_getElem? (i := 44) rfl)⟩
noncomputable def lw_privs_6 : List (MethodName × Nat) := [(⟨"ShortEnoughModel", "isFree", "(I)Z"⟩, 67), (⟨"ShortEnoughModel", "inputs", "()I"⟩, 67), (⟨"ShortEnoughModel", "answers", "()I"⟩, 67), (⟨"ShortEnoughModel", "groups", "()I"⟩, 67), (⟨"ShortEnoughModel", "isFormat", "(I)Z"⟩, 67), (⟨"ShortEnoughModel", "isNumber", "(I)Z"⟩, 67), (⟨"ShortEnoughModel", "groupPlace", "(I)I"⟩, 67), (⟨"ShortEnoughModel", "isGreatPart", "(I)Z"⟩, 67), (⟨"ShortEnoughModel", "laysRange", "(I)V"⟩, 67), (⟨"ShortEnoughModel", "lowOf", "(IZ)J"⟩, 67), (⟨"ShortEnoughModel", "highOf", "(IZ)J"⟩, 67), (⟨"ShortEnoughModel", "mostOf", "(I)J"⟩, 67), (⟨"ShortEnoughModel", "deepOf", "(I)I"⟩, 67), (⟨"ShortEnoughModel", "isThere", "()Z"⟩, 67), (⟨"ShortEnoughModel", "triesHand", "()V"⟩, 67), (⟨"ShortEnoughModel", "costTried", "()I"⟩, 67)]
theorem lw_r6 : ∀ q ∈ lw_privs_6, lw_okq q := List.forall_mem_cons.mpr ⟨lw_p80, List.forall_mem_cons.mpr ⟨lw_p81, List.forall_mem_cons.mpr ⟨lw_p82, List.forall_mem_cons.mpr ⟨lw_p83, List.forall_mem_cons.mpr ⟨lw_p84, List.forall_mem_cons.mpr ⟨lw_p85, List.forall_mem_cons.mpr ⟨lw_p86, List.forall_mem_cons.mpr ⟨lw_p87, List.forall_mem_cons.mpr ⟨lw_p88, List.forall_mem_cons.mpr ⟨lw_p89, List.forall_mem_cons.mpr ⟨lw_p90, List.forall_mem_cons.mpr ⟨lw_p91, List.forall_mem_cons.mpr ⟨lw_p92, List.forall_mem_cons.mpr ⟨lw_p93, List.forall_mem_cons.mpr ⟨lw_p94, List.forall_mem_cons.mpr ⟨lw_p95, fun _ h => absurd h List.not_mem_nil⟩⟩⟩⟩⟩⟩⟩⟩⟩⟩⟩⟩⟩⟩⟩⟩
theorem lw_p96 : lw_okq (⟨"ShortEnoughModel", "castsTried", "()I"⟩, 67) := ⟨lnh10, ltin6 _ (List.mem_of_getElem? (i := 14) rfl), ltin8 _ (List.mem_of_getElem? (i := 47) rfl), ltin8 _ (List.mem_of_getElem? (i := 48) rfl)⟩
theorem lw_p97 : lw_okq (⟨"ShortEnoughModel", "isCast", "(II)Z"⟩, 67) := ⟨lnh10, ltin6 _ (List.mem_of_getElem? (i := 14) rfl), ltin8 _ (List.mem_of_getElem? (i := 51) rfl), ltin8 _ (List.mem_of_getElem? (i := 52) rfl)⟩
theorem lw_p98 : lw_okq (⟨"ShortEnoughModel", "handPasses", "()Z"⟩, 67) := ⟨lnh10, ltin6 _ (List.mem_of_getElem? (i := 14) rfl), ltin8 _ (List.mem_of_getElem? (i := 63) rfl), ltin8 _ (List.mem_of_getElem? (i := 64) rfl)⟩
theorem lw_p99 : lw_okq (⟨"ShortEnoughModel", "passes", "()Z"⟩, 67) := ⟨lnh10, ltin6 _ (List.mem_of_getElem? (i := 14) rfl), ltin8 _ (List.mem_of_getElem? (i := 67) rfl), ltin8 _ (List.mem_of_getElem? (i := 68) rfl)⟩
theorem lw_p100 : lw_okq (⟨"ShortEnoughModel", "laysError", "(I)V"⟩, 67) := ⟨lnh10, ltin6 _ (List.mem_of_getElem? (i := 14) rfl), ltin8 _ (List.mem_of_getElem? (i := 71) rfl), ltin8 _ (List.mem_of_getElem? (i := 72) rfl)⟩
theorem lw_p101 : lw_okq (⟨"ShortEnoughModel", "castError", "(IZ)J"⟩, 67) := ⟨lnh10, ltin6 _ (List.mem_of_getElem? (i := 14) rfl), ltin8 _ (List.mem_of_getElem? (i := 75) rfl), ltin8 _ (List.mem_of_getElem? (i := 76) rfl)⟩
theorem lw_p102 : lw_okq (⟨"ShortEnoughModel", "isAnswer", "(I)Z"⟩, 67) := ⟨lnh10, ltin6 _ (List.mem_of_getElem? (i := 14) rfl), ltin8 _ (List.mem_of_getElem? (i := 91) rfl), ltin8 _ (List.mem_of_getElem? (i := 92) rfl)⟩
theorem lw_p103 : lw_okq (⟨"ShortEnoughModel", "finest", "()I"⟩, 67) := ⟨lnh10, ltin6 _ (List.mem_of_getElem? (i := 14) rfl), ltin8 _ (List.mem_of_getElem? (i := 104) rfl), ltin8 _ (List.mem_of_getElem? (i := 105) rfl)⟩
theorem lw_p104 : lw_okq (⟨"ShortEnoughModel", "triesGroup", "(II)V"⟩, 67) := ⟨lnh10, ltin6 _ (List.mem_of_getElem? (i := 14) rfl), ltin8 _ (List.mem_of_getElem? (i := 108) rfl), ltin8 _ (List.mem_of_getElem? (i := 109) rfl)⟩
theorem lw_p105 : lw_okq (⟨"ShortEnoughModel", "canSearch", "()Z"⟩, 67) := ⟨lnh10, ltin6 _ (List.mem_of_getElem? (i := 14) rfl), ltin8 _ (List.mem_of_getElem? (i := 116) rfl), ltin8 _ (List.mem_of_getElem? (i := 117) rfl)⟩
theorem lw_p106 : lw_okq (⟨"ShortEnoughModel", "cheapestChoice", "()I"⟩, 67) := ⟨lnh10, ltin6 _ (List.mem_of_getElem? (i := 14) rfl), ltin8 _ (List.mem_of_getElem? (i := 120) rfl), ltin8 _ (List.mem_of_getElem? (i := 121) rfl)⟩
theorem lw_p107 : lw_okq (⟨"ShortEnoughModel", "allChoices", "()I"⟩, 67) := ⟨lnh10, ltin6 _ (List.mem_of_getElem? (i := 14) rfl), ltin8 _ (List.mem_of_getElem? (i := 124) rfl), ltin8 _ (List.mem_of_getElem? (i := 125) rfl)⟩
theorem lw_p108 : lw_okq (⟨"ShortEnoughModel", "triesChoice", "(I)V"⟩, 67) := ⟨lnh10, ltin6 _ (List.mem_of_getElem? (i := 14) rfl), ltin8 _ (List.mem_of_getElem? (i := 128) rfl), ltin8 _ (List.mem_of_getElem? (i := 129) rfl)⟩
theorem lw_p109 : lw_okq (⟨"ShortEnoughModel", "halve", "()Z"⟩, 67) := ⟨lnh10, ltin6 _ (List.mem_of_getElem? (i := 14) rfl), ltin8 _ (List.mem_of_getElem? (i := 140) rfl), ltin8 _ (List.mem_of_getElem? (i := 141) rfl)⟩
theorem lw_p110 : lw_okq (⟨"ShortEnoughModel", "keepsTried", "()V"⟩, 67) := ⟨lnh10, ltin6 _ (List.mem_of_getElem? (i := 14) rfl), ltin8 _ (List.mem_of_getElem? (i := 144) rfl), ltin8 _ (List.mem_of_getElem? (i := 145) rfl)⟩
theorem lw_p111 : lw_okq (⟨"ShortEnoughModel", "halvesBy", "(I)V"⟩, 67) := ⟨lnh10, ltin6 _ (List.mem_of_getElem? (i := 14) rfl), ltin8 _ (List.mem_of_getElem? (i := 148) rfl), ltin8 _ (List.mem_of_getElem? (i := 149) rfl)⟩
noncomputable def lw_privs_7 : List (MethodName × Nat) := [(⟨"ShortEnoughModel", "castsTried", "()I"⟩, 67), (⟨"ShortEnoughModel", "isCast", "(II)Z"⟩, 67), (⟨"ShortEnoughModel", "handPasses", "()Z"⟩, 67), (⟨"ShortEnoughModel", "passes", "()Z"⟩, 67), (⟨"ShortEnoughModel", "laysError", "(I)V"⟩, 67), (⟨"ShortEnoughModel", "castError", "(IZ)J"⟩, 67), (⟨"ShortEnoughModel", "isAnswer", "(I)Z"⟩, 67), (⟨"ShortEnoughModel", "finest", "()I"⟩, 67), (⟨"ShortEnoughModel", "triesGroup", "(II)V"⟩, 67), (⟨"ShortEnoughModel", "canSearch", "()Z"⟩, 67), (⟨"ShortEnoughModel", "cheapestChoice", "()I"⟩, 67), (⟨"ShortEnoughModel", "allChoices", "()I"⟩, 67), (⟨"ShortEnoughModel", "triesChoice", "(I)V"⟩, 67), (⟨"ShortEnoughModel", "halve", "()Z"⟩, 67), (⟨"ShortEnoughModel", "keepsTried", "()V"⟩, 67), (⟨"ShortEnoughModel", "halvesBy", "(I)V"⟩, 67)]
theorem lw_r7 : ∀ q ∈ lw_privs_7, lw_okq q := List.forall_mem_cons.mpr ⟨lw_p96, List.forall_mem_cons.mpr ⟨lw_p97, List.forall_mem_cons.mpr ⟨lw_p98, List.forall_mem_cons.mpr ⟨lw_p99, List.forall_mem_cons.mpr ⟨lw_p100, List.forall_mem_cons.mpr ⟨lw_p101, List.forall_mem_cons.mpr ⟨lw_p102, List.forall_mem_cons.mpr ⟨lw_p103, List.forall_mem_cons.mpr ⟨lw_p104, List.forall_mem_cons.mpr ⟨lw_p105, List.forall_mem_cons.mpr ⟨lw_p106, List.forall_mem_cons.mpr ⟨lw_p107, List.forall_mem_cons.mpr ⟨lw_p108, List.forall_mem_cons.mpr ⟨lw_p109, List.forall_mem_cons.mpr ⟨lw_p110, List.forall_mem_cons.mpr ⟨lw_p111, fun _ h => absurd h List.not_mem_nil⟩⟩⟩⟩⟩⟩⟩⟩⟩⟩⟩⟩⟩⟩⟩⟩
theorem lw_p112 : lw_okq (⟨"ShortEnoughModel", "isBetter", "(III)Z"⟩, 67) := ⟨lnh10, ltin6 _ (List.mem_of_getElem? (i := 14) rfl), ltin8 _ (List.mem_of_getElem? (i := 152) rfl), ltin8 _ (List.mem_of_getElem? (i := 153) rfl)⟩
theorem lw_p113 : lw_okq (⟨"ShortEnoughModel", "laysSingle", "()V"⟩, 67) := ⟨lnh10, ltin6 _ (List.mem_of_getElem? (i := 14) rfl), ltin8 _ (List.mem_of_getElem? (i := 161) rfl), ltin8 _ (List.mem_of_getElem? (i := 162) rfl)⟩
theorem lw_p114 : lw_okq (⟨"ShortEnoughModel", "canTake", "(I)Z"⟩, 67) := ⟨lnh10, ltin6 _ (List.mem_of_getElem? (i := 14) rfl), ltin8 _ (List.mem_of_getElem? (i := 169) rfl), ltin8 _ (List.mem_of_getElem? (i := 170) rfl)⟩
theorem lw_p115 : lw_okq (⟨"ShortEnoughModel", "takesTried", "()V"⟩, 67) := ⟨lnh10, ltin6 _ (List.mem_of_getElem? (i := 14) rfl), ltin8 _ (List.mem_of_getElem? (i := 173) rfl), ltin8 _ (List.mem_of_getElem? (i := 174) rfl)⟩
theorem lw_p116 : lw_okq (⟨"ShortEnoughModel", "laysFront", "(I)V"⟩, 67) := ⟨lnh10, ltin6 _ (List.mem_of_getElem? (i := 14) rfl), ltin8 _ (List.mem_of_getElem? (i := 181) rfl), ltin8 _ (List.mem_of_getElem? (i := 182) rfl)⟩
theorem lw_p117 : lw_okq (⟨"ShortEnoughModel", "laysCouple", "(IJ)V"⟩, 67) := ⟨lnh10, ltin6 _ (List.mem_of_getElem? (i := 14) rfl), ltin8 _ (List.mem_of_getElem? (i := 185) rfl), ltin8 _ (List.mem_of_getElem? (i := 186) rfl)⟩
theorem lw_p118 : lw_okq (⟨"ShortEnoughModel", "readsLong", "(I)J"⟩, 67) := ⟨lnh10, ltin6 _ (List.mem_of_getElem? (i := 14) rfl), ltin8 _ (List.mem_of_getElem? (i := 205) rfl), ltin8 _ (List.mem_of_getElem? (i := 206) rfl)⟩
theorem lw_p119 : lw_okq (⟨"ShortEnoughModel", "breaks", "(I)I"⟩, 67) := ⟨lnh10, ltin6 _ (List.mem_of_getElem? (i := 14) rfl), ltin8 _ (List.mem_of_getElem? (i := 211) rfl), ltin8 _ (List.mem_of_getElem? (i := 212) rfl)⟩
theorem lw_p120 : lw_okq (⟨"ShortEnoughModel", "isFormatSaid", "(I)Z"⟩, 67) := ⟨lnh10, ltin6 _ (List.mem_of_getElem? (i := 14) rfl), ltin8 _ (List.mem_of_getElem? (i := 215) rfl), ltin8 _ (List.mem_of_getElem? (i := 216) rfl)⟩
theorem lw_p121 : lw_okq (⟨"ShortEnoughModel", "triesOnce", "()V"⟩, 67) := ⟨lnh10, ltin6 _ (List.mem_of_getElem? (i := 14) rfl), ltin8 _ (List.mem_of_getElem? (i := 228) rfl), ltin8 _ (List.mem_of_getElem? (i := 229) rfl)⟩
theorem lw_p122 : lw_okq (⟨"ShortEnoughModel", "draw", "(J)J"⟩, 67) := ⟨lnh10, ltin6 _ (List.mem_of_getElem? (i := 14) rfl), ltin8 _ (List.mem_of_getElem? (i := 232) rfl), ltin8 _ (List.mem_of_getElem? (i := 233) rfl)⟩
theorem lw_p123 : lw_okq (⟨"ShortEnoughModel", "exactOf", "(IZ)J"⟩, 67) := ⟨lnh10, ltin6 _ (List.mem_of_getElem? (i := 14) rfl), ltin9 _ (List.mem_of_getElem? (i := 2) rfl), ltin9 _ (List.mem_of_getElem? (i := 3) rfl)⟩
theorem lw_p124 : lw_okq (⟨"ShortEnoughModel", "castOf", "(IZ)J"⟩, 67) := ⟨lnh10, ltin6 _ (List.mem_of_getElem? (i := 14) rfl), ltin9 _ (List.mem_of_getElem? (i := 6) rfl), ltin9 _ (List.mem_of_getElem? (i := 7) rfl)⟩
noncomputable def lw_privs_8 : List (MethodName × Nat) := [(⟨"ShortEnoughModel", "isBetter", "(III)Z"⟩, 67), (⟨"ShortEnoughModel", "laysSingle", "()V"⟩, 67), (⟨"ShortEnoughModel", "canTake", "(I)Z"⟩, 67), (⟨"ShortEnoughModel", "takesTried", "()V"⟩, 67), (⟨"ShortEnoughModel", "laysFront", "(I)V"⟩, 67), (⟨"ShortEnoughModel", "laysCouple", "(IJ)V"⟩, 67), (⟨"ShortEnoughModel", "readsLong", "(I)J"⟩, 67), (⟨"ShortEnoughModel", "breaks", "(I)I"⟩, 67), (⟨"ShortEnoughModel", "isFormatSaid", "(I)Z"⟩, 67), (⟨"ShortEnoughModel", "triesOnce", "()V"⟩, 67), (⟨"ShortEnoughModel", "draw", "(J)J"⟩, 67), (⟨"ShortEnoughModel", "exactOf", "(IZ)J"⟩, 67), (⟨"ShortEnoughModel", "castOf", "(IZ)J"⟩, 67)]
theorem lw_r8 : ∀ q ∈ lw_privs_8, lw_okq q := List.forall_mem_cons.mpr ⟨lw_p112, List.forall_mem_cons.mpr ⟨lw_p113, List.forall_mem_cons.mpr ⟨lw_p114, List.forall_mem_cons.mpr ⟨lw_p115, List.forall_mem_cons.mpr ⟨lw_p116, List.forall_mem_cons.mpr ⟨lw_p117, List.forall_mem_cons.mpr ⟨lw_p118, List.forall_mem_cons.mpr ⟨lw_p119, List.forall_mem_cons.mpr ⟨lw_p120, List.forall_mem_cons.mpr ⟨lw_p121, List.forall_mem_cons.mpr ⟨lw_p122, List.forall_mem_cons.mpr ⟨lw_p123, List.forall_mem_cons.mpr ⟨lw_p124, fun _ h => absurd h List.not_mem_nil⟩⟩⟩⟩⟩⟩⟩⟩⟩⟩⟩⟩⟩
noncomputable def lw_privs : List (MethodName × Nat) := lw_privs_1 ++ (lw_privs_2 ++ (lw_privs_3 ++ (lw_privs_4 ++ (lw_privs_5 ++ (lw_privs_6 ++ (lw_privs_7 ++ (lw_privs_8)))))))
noncomputable def lw_tbl : List Cond := k2_sels lw_privs ++ tables_1
theorem lw_privs_ok : ∀ q ∈ lw_privs, lw_okq q := by
  show ∀ q ∈ lw_privs_1 ++ (lw_privs_2 ++ (lw_privs_3 ++ (lw_privs_4 ++ (lw_privs_5 ++ (lw_privs_6 ++ (lw_privs_7 ++ (lw_privs_8))))))), lw_okq q
  exact List.forall_mem_append.mpr ⟨lw_r1, List.forall_mem_append.mpr ⟨lw_r2, List.forall_mem_append.mpr ⟨lw_r3, List.forall_mem_append.mpr ⟨lw_r4, List.forall_mem_append.mpr ⟨lw_r5, List.forall_mem_append.mpr ⟨lw_r6, List.forall_mem_append.mpr ⟨lw_r7, lw_r8⟩⟩⟩⟩⟩⟩⟩
