/-- as Met.ofW, of a method that has no native row (java/lang/Math) -/
theorem zMet_of {l : Launch} {y : MethodName} {ws ws' : List Cond} {rm : Room} {Pc : Array Value → State → Prop} {Qc : Array Value → State → Outcome → State → Prop} {mc ms : Nat} {free : Addr → Prop} {cc : ByteArray} {maxL : Nat} {ret : Option FieldType} (hy : plainFor y = true) (hw : ws = Cond.code y cc maxL ret :: ws') (body : ∀ p e s m args below meth c s₁, BodyLoose p l y (headSpec ws rm) cc maxL ret e s m args below meth c s₁ → c.maxLocals = maxL → Pc args s → W p l e (headSpec ws rm).room s m args below meth c s.heap [] 0 0 (MQ below Qc args s mc ms free) (entryFrame m args maxL)) : Met l y ws rm Pc Qc mc ms free := by
  refine MetFree.of_bodySF (code := cc) (maxLocals := maxL) (ret := ret) hy ?_ ?_
  · intro args s m h hn
    obtain ⟨meth, c, h1, h2, h3, h4, h5, h6, -, -⟩ := Cond.code_spec hn (atoms_spec (ws := ws) h _ (by rw [hw]; exact List.mem_cons_self))
    exact ⟨meth, c, h1, h2, h3, h4, h5, h6⟩
  · intro p e s m args below meth c s₁ B hml hP _
    have hh0 : s₁.heap = s.heap := by rw [B.state]; rfl
    obtain ⟨t, a1, o, b1, b2, b3⟩ := body p e s m args below meth c s₁ B hml hP s₁ hh0 (Stand.of_body B)
    exact ⟨t, o, a1, b1, b2, ⟨b3.1, b3.2⟩⟩
theorem zo_neg {x z : Int32} {a : Int} (e : z = -x) (ha : x.toInt = a) (h : -2147483648 < a ∧ a < 2147483648) : z.toInt = -a := by
  rw [e, Int32.toInt_neg, ha, Int.bmod_def]
  split <;> omega
theorem zoL_add {x y z : Int64} {a b : Int} (e : z = x + y) (ha : x.toInt = a) (hb : y.toInt = b) (h : -9223372036854775808 ≤ a + b ∧ a + b < 9223372036854775808) : z.toInt = a + b := by
  rw [e, Int64.toInt_add, ha, hb, Int.bmod_def]
  split <;> omega
theorem zoL_sub {x y z : Int64} {a b : Int} (e : z = x - y) (ha : x.toInt = a) (hb : y.toInt = b) (h : -9223372036854775808 ≤ a - b ∧ a - b < 9223372036854775808) : z.toInt = a - b := by
  rw [e, Int64.toInt_sub, ha, hb, Int.bmod_def]
  split <;> omega
/-! a method as a pure function: none where the machine would throw, or where the fuel ends -/
def zb {α ρ : Type} (o : Option α) (k : α → Option ρ) : Option ρ := match o with
  | some a => k a
  | none => none
theorem zb_s {α ρ : Type} {o : Option α} {k : α → Option ρ} {r : ρ} (h : zb o k = some r) : ∃ a, o = some a ∧ k a = some r := by
  cases o with
  | none => cases h
  | some a => exact ⟨a, rfl, h⟩
def zl {σ ρ : Type} (body : σ → (σ → Option ρ) → Option ρ) : Nat → σ → Option ρ
  | 0, _ => none
  | n + 1, s => body s (zl body n)
theorem zl_0 {σ ρ : Type} {b : σ → (σ → Option ρ) → Option ρ} {s : σ} {r : ρ} (h : zl b 0 s = some r) : False := by cases h
theorem zl_g {σ ρ : Type} {B : σ → (σ → Option ρ) → Option ρ} {n : Nat} {s : σ} {r : ρ} (h : zl B n s = some r) : ∃ b, b = B ∧ zl b n s = some r := ⟨B, rfl, h⟩
theorem zl_s {σ ρ : Type} {b B : σ → (σ → Option ρ) → Option ρ} {n : Nat} {s : σ} {r : ρ} (e : b = B) (h : zl b (n + 1) s = some r) : B s (zl b n) = some r := by
  subst e
  exact h
def zj {σ ρ : Type} (j : σ → ρ) (k : (σ → ρ) → ρ) : ρ := k j
theorem zj_g {σ ρ : Type} {J : σ → ρ} {k : (σ → ρ) → ρ} {r : ρ} (h : zj J k = r) : ∃ j, j = J ∧ k j = r := ⟨J, rfl, h⟩
theorem zj_s {σ ρ : Type} {j J : σ → ρ} {s : σ} {r : ρ} (e : j = J) (h : j s = r) : J s = r := by
  subst e
  exact h
def zn {α ρ : Type} (a : α) (k : α → ρ) : ρ := k a
theorem zn_s {α ρ : Type} {a y : α} {k : α → ρ} {r : ρ} (h : zn a k = r) (e : y = a) : k y = r := by
  subst e
  exact h
def zg {ρ : Type} (i : Int32) (n : Nat) (e : Option ρ) : Option ρ := if 0 ≤ i.toInt ∧ i.toInt < (n : Int) then e else none
theorem zg_s {ρ : Type} {i : Int32} {n : Nat} {e : Option ρ} {r : ρ} (h : zg i n e = some r) : vp_in i n ∧ e = some r := by
  unfold zg at h
  split at h
  · exact ⟨vp_in_iff.mpr (by assumption), h⟩
  · cases h
def zd {α ρ : Type} [DecidableEq α] [OfNat α 0] (y : α) (e : Option ρ) : Option ρ := if y = 0 then none else e
theorem zd_s {α ρ : Type} [DecidableEq α] [OfNat α 0] {y : α} {e : Option ρ} {r : ρ} (h : zd y e = some r) : ¬ y = 0 ∧ e = some r := by
  unfold zd at h
  split at h
  · cases h
  · exact ⟨by assumption, h⟩
def zt {ρ : Type} (v : Int32) (e : Option ρ) : Option ρ := if v &&& 1 = v then e else none
theorem zt_s {ρ : Type} {v : Int32} {e : Option ρ} {r : ρ} (h : zt v e = some r) : narrow .boolean (.int v) = .int v ∧ e = some r := by
  unfold zt at h
  split at h
  · exact ⟨congrArg Value.int (by assumption), h⟩
  · cases h
def za {ρ : Type} (n : Int32) (top : Nat) (e : Option ρ) : Option ρ := if ¬ n < 0 ∧ n.toNatClampNeg ≤ top then e else none
theorem za_s {ρ : Type} {n : Int32} {top : Nat} {e : Option ρ} {r : ρ} (h : za n top e = some r) : (¬ n < 0 ∧ n.toNatClampNeg ≤ top) ∧ e = some r := by
  unfold za at h
  split at h
  · exact ⟨by assumption, h⟩
  · cases h
def zsel (i : Int32) (a b : Nat) : Nat := if i = 0 then a else b
theorem zB0 : narrow .boolean (.int 0) = .int 0 := rfl
theorem zB1 : narrow .boolean (.int 1) = .int 1 := rfl
theorem zfit {v : Int32} (h : narrow .boolean (.int v) = .int v) : fits .boolean (.int v) = true := by
  have h1 : v &&& 1 = v := Value.int.inj h
  have h2 := zo_and1 (x := v) (z := v) h1.symm
  rcases (show v.toInt = 0 ∨ v.toInt = 1 by omega) with q | q
  · rw [show v = 0 from Int32.toInt_inj.mp (by rw [q]; decide +kernel)]; rfl
  · rw [show v = 1 from Int32.toInt_inj.mp (by rw [q]; decide +kernel)]; rfl
