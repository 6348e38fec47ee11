/-- as Met.ofW, of a method that has no native row (java/lang/Math) -/
theorem zMet_of {l : Launch} {y : MethodName} {ws ws' : List Cond} {rm : Room} {Pc : Array Value → State → Prop} {Qc : Array Value → State → Outcome → State → Prop} {mc ms : Nat} {free : Addr → Prop} {cc : ByteArray} {maxL : Nat} {ret : Option FieldType} (hy : plainFor y = true) (hw : ws = Cond.code y cc maxL ret :: ws') (body : ∀ p e s m args below meth c s₁, BodyLoose p l y (headSpec ws rm) cc maxL ret e s m args below meth c s₁ → c.maxLocals = maxL → Pc args s → W p l e (headSpec ws rm).room s m args below meth c s.heap [] 0 0 (MQ below Qc args s mc ms free) (entryFrame m args maxL)) : Met l y ws rm Pc Qc mc ms free := by
  refine MetFree.of_bodySF (code := cc) (maxLocals := maxL) (ret := ret) hy ?_ ?_
  · intro args s m h hn
    obtain ⟨meth, c, h1, h2, h3, h4, h5, h6, -, -⟩ := Cond.code_spec hn (atoms_spec (ws := ws) h _ (by rw [hw]; exact List.mem_cons_self))
    exact ⟨meth, c, h1, h2, h3, h4, h5, h6⟩
  · intro p e s m args below meth c s₁ B hml hP _
    have hh0 : s₁.heap = s.heap := by rw [B.state]; rfl
    obtain ⟨t, a1, o, b1, b2, b3⟩ := body p e s m args below meth c s₁ B hml hP s₁ hh0 (Stand.of_body B)
    exact ⟨t, o, a1, b1, b2, ⟨b3.1, b3.2⟩⟩
theorem zo_neg {x z : Int32} {a : Int} (e : z = -x) (ha : x.toInt = a) (h : -2147483648 < a ∧ a < 2147483648) : z.toInt = -a := by
  rw [e, Int32.toInt_neg, ha, Int.bmod_def]
  split <;> omega
theorem zoL_add {x y z : Int64} {a b : Int} (e : z = x + y) (ha : x.toInt = a) (hb : y.toInt = b) (h : -9223372036854775808 ≤ a + b ∧ a + b < 9223372036854775808) : z.toInt = a + b := by
  rw [e, Int64.toInt_add, ha, hb, Int.bmod_def]
  split <;> omega
theorem zoL_sub {x y z : Int64} {a b : Int} (e : z = x - y) (ha : x.toInt = a) (hb : y.toInt = b) (h : -9223372036854775808 ≤ a - b ∧ a - b < 9223372036854775808) : z.toInt = a - b := by
  rw [e, Int64.toInt_sub, ha, hb, Int.bmod_def]
  split <;> omega
/-! a method as a pure function: none where the machine would throw, or where the fuel ends -/
noncomputable def zb {α ρ : Type} (o : Option α) (k : α → Option ρ) : Option ρ := match o with
  | some a => k a
  | none => none
theorem zb_s {α ρ : Type} {o : Option α} {k : α → Option ρ} {r : ρ} (h : zb o k = some r) : ∃ a, o = some a ∧ k a = some r := by
  cases o with
  | none => cases h
  | some a => exact ⟨a, rfl, h⟩
noncomputable def zl {σ ρ : Type} (body : σ → (σ → Option ρ) → Option ρ) : Nat → σ → Option ρ
  | 0, _ => none
  | n + 1, s => body s (zl body n)
theorem zl_0 {σ ρ : Type} {b : σ → (σ → Option ρ) → Option ρ} {s : σ} {r : ρ} (h : zl b 0 s = some r) : False := by cases h
theorem zl_g {σ ρ : Type} {B : σ → (σ → Option ρ) → Option ρ} {n : Nat} {s : σ} {r : ρ} (h : zl B n s = some r) : ∃ b, b = B ∧ zl b n s = some r := ⟨B, rfl, h⟩
theorem zl_s {σ ρ : Type} {b B : σ → (σ → Option ρ) → Option ρ} {n : Nat} {s : σ} {r : ρ} (e : b = B) (h : zl b (n + 1) s = some r) : B s (zl b n) = some r := by
  subst e
  exact h
noncomputable def zj {σ ρ : Type} (j : σ → ρ) (k : (σ → ρ) → ρ) : ρ := k j
theorem zj_g {σ ρ : Type} {J : σ → ρ} {k : (σ → ρ) → ρ} {r : ρ} (h : zj J k = r) : ∃ j, j = J ∧ k j = r := ⟨J, rfl, h⟩
theorem zj_s {σ ρ : Type} {j J : σ → ρ} {s : σ} {r : ρ} (e : j = J) (h : j s = r) : J s = r := by
  subst e
  exact h
noncomputable def zn {α ρ : Type} (a : α) (k : α → ρ) : ρ := k a
theorem zn_s {α ρ : Type} {a y : α} {k : α → ρ} {r : ρ} (h : zn a k = r) (e : y = a) : k y = r := by
  subst e
  exact h
noncomputable def zg {ρ : Type} (i : Int32) (n : Nat) (e : Option ρ) : Option ρ := if 0 ≤ i.toInt ∧ i.toInt < (n : Int) then e else none
theorem zg_s {ρ : Type} {i : Int32} {n : Nat} {e : Option ρ} {r : ρ} (h : zg i n e = some r) : vp_in i n ∧ e = some r := by
  unfold zg at h
  split at h
  · exact ⟨vp_in_iff.mpr (by assumption), h⟩
  · cases h
noncomputable def zd {α ρ : Type} [DecidableEq α] [OfNat α 0] (y : α) (e : Option ρ) : Option ρ := if y = 0 then none else e
theorem zd_s {α ρ : Type} [DecidableEq α] [OfNat α 0] {y : α} {e : Option ρ} {r : ρ} (h : zd y e = some r) : ¬ y = 0 ∧ e = some r := by
  unfold zd at h
  split at h
  · cases h
  · exact ⟨by assumption, h⟩
noncomputable def zt {ρ : Type} (v : Int32) (e : Option ρ) : Option ρ := if v &&& 1 = v then e else none
theorem zt_s {ρ : Type} {v : Int32} {e : Option ρ} {r : ρ} (h : zt v e = some r) : narrow .boolean (.int v) = .int v ∧ e = some r := by
  unfold zt at h
  split at h
  · exact ⟨congrArg Value.int (by assumption), h⟩
  · cases h
noncomputable def za {ρ : Type} (n : Int32) (top : Nat) (e : Option ρ) : Option ρ := if ¬ n < 0 ∧ n.toNatClampNeg ≤ top then e else none
theorem za_s {ρ : Type} {n : Int32} {top : Nat} {e : Option ρ} {r : ρ} (h : za n top e = some r) : (¬ n < 0 ∧ n.toNatClampNeg ≤ top) ∧ e = some r := by
  unfold za at h
  split at h
  · exact ⟨by assumption, h⟩
  · cases h
noncomputable def zsel (i : Int32) (a b : Nat) : Nat := if i = 0 then a else b
theorem zB0 : narrow .boolean (.int 0) = .int 0 := rfl
theorem zB1 : narrow .boolean (.int 1) = .int 1 := rfl
theorem zfit {v : Int32} (h : narrow .boolean (.int v) = .int v) : fits .boolean (.int v) = true := by
  have h1 : v &&& 1 = v := Value.int.inj h
  have h2 := zo_and1 (x := v) (z := v) h1.symm
  rcases (show v.toInt = 0 ∨ v.toInt = 1 by omega) with q | q
  · rw [show v = 0 from Int32.toInt_inj.mp (by rw [q]; decide +kernel)]; rfl
  · rw [show v = 1 from Int32.toInt_inj.mp (by rw [q]; decide +kernel)]; rfl

/-! a world behind a call: each cell is the caller's old one, or one of the callee's -/
noncomputable def zpk (w1 : va_W) (c : Nat × va_E) : Option Nat → Nat × va_E
  | none => c
  | some j => (w1[j]?).getD c
noncomputable def zsrc (w1 : va_W) : va_W → List (Option Nat) → va_W
  | [], _ => []
  | c :: cs, [] => c :: cs
  | c :: cs, s :: ss => zpk w1 c s :: zsrc w1 cs ss
noncomputable def zokA (isC : List Nat) : List (Option Nat) → Nat → Bool
  | [], _ => true
  | none :: ss, k => zokA isC ss (k + 1)
  | some j :: ss, k => decide (isC[j]? = some k) && zokA isC ss (k + 1)
noncomputable def zokB (isC : List Nat) (src : List (Option Nat)) : Bool := isC.all (fun i => (src[i]?.getD none).isSome)
theorem zokA_get {isC : List Nat} : ∀ {src : List (Option Nat)} {b : Nat}, zokA isC src b = true → ∀ {k j : Nat}, src[k]? = some (some j) → isC[j]? = some (b + k) := by
  intro src
  induction src with
  | nil =>
    intro b _ k j h
    cases h
  | cons s ss ih =>
    intro b hb k j h
    cases k with
    | zero =>
      rw [List.getElem?_cons_zero] at h
      cases h
      exact of_decide_eq_true ((Bool.and_eq_true _ _ ▸ hb : _ ∧ _).1)
    | succ k =>
      rw [List.getElem?_cons_succ] at h
      have hb2 : zokA isC ss (b + 1) = true := by
        cases s with
        | none => exact hb
        | some i => exact (Bool.and_eq_true _ _ ▸ hb : _ ∧ _).2
      have h3 := ih hb2 h
      rw [h3]
      congr 1
      omega
theorem zokB_get {isC : List Nat} {src : List (Option Nat)} (h : zokB isC src = true) {i : Nat} (hi : i ∈ isC) : ∃ j, src[i]? = some (some j) := by
  have h1 := List.all_eq_true.mp h i hi
  cases h2 : src[i]? with
  | none => rw [h2] at h1; cases h1
  | some s =>
    cases s with
    | none => rw [h2] at h1; cases h1
    | some j => exact ⟨j, rfl⟩
theorem zsrc_get {w1 : va_W} : ∀ (ws : va_W) (src : List (Option Nat)) (k : Nat) (q : Nat × va_E), (zsrc w1 ws src)[k]? = some q → (∃ j : Nat, src[k]? = some (some j) ∧ (w1[j]? = some q ∨ w1[j]? = none)) ∨ ((∀ j : Nat, src[k]? ≠ some (some j)) ∧ ws[k]? = some q) := by
  intro ws
  induction ws with
  | nil =>
    intro src k q h
    cases h
  | cons c cs ih =>
    intro src k q h
    cases src with
    | nil => exact Or.inr ⟨fun j hj => (by cases hj), h⟩
    | cons s ss =>
      cases k with
      | zero =>
        have h : some (zpk w1 c s) = some q := h
        cases s with
        | none => exact Or.inr ⟨fun j hj => (by cases hj), h⟩
        | some j =>
          refine Or.inl ⟨j, rfl, ?_⟩
          cases h2 : w1[j]? with
          | none => exact Or.inr rfl
          | some y =>
            have h3 : zpk w1 c (some j) = y := by show (w1[j]?).getD c = y; rw [h2]; rfl
            rw [h3] at h
            exact Or.inl h
      | succ k => exact ih ss k q h
theorem zmap_at {ws : va_W} {is : List Nat} {w : va_W} (hs : is.map (fun i => ws[i]?) = w.map some) (k : Nat) (q : Nat × va_E) (hq : w[k]? = some q) : ∃ i, is[k]? = some i ∧ ws[i]? = some q := by
  have h1 : (is.map (fun i => ws[i]?))[k]? = some (some q) := by rw [hs, List.getElem?_map, hq]; rfl
  rw [List.getElem?_map] at h1
  cases hi : is[k]? with
  | none => rw [hi] at h1; cases h1
  | some i => rw [hi] at h1; exact ⟨i, rfl, Option.some.inj h1⟩
theorem zfm {α β : Type} {f : α → Option β} : ∀ {is : List α} {w : List β}, is.map f = w.map some → is.filterMap f = w := by
  intro is
  induction is with
  | nil =>
    intro w h
    cases w with
    | nil => rfl
    | cons a w => cases h
  | cons i is ih =>
    intro w h
    cases w with
    | nil => cases h
    | cons a w =>
      rw [List.map_cons, List.map_cons] at h
      obtain ⟨h1, h2⟩ := List.cons.inj h
      rw [List.filterMap_cons_some h1, ih h2]
theorem zC {D : va_G} {cl : List vw_C} {ws wc : va_W} {H : Heap} (_ : va_P D cl ws H) (is : List Nat) (h : is.map (fun i => ws[i]?) = wc.map some) : is.map (fun i => ws[i]?) = wc.map some := h
theorem zjoin {A0 : Nat → Prop} {D : va_G} {cl : List vw_C} {ws wc w1 ws' : va_W} {H H1 : Heap} (hP : va_P D cl ws H) (hD : va_D A0 ws) (isC : List Nat) (hC : isC.map (fun i => ws[i]?) = wc.map some) (src : List (Option Nat)) (ha : zokA isC src 0 = true) (hb : zokB isC src = true) (hl : isC.length = w1.length) (hU : zsrc w1 ws src = ws')
    (hk : ∀ q : Nat, q < H.size → ¬ va_A wc H.size q → H1[q]? = H[q]?) (hF : ∀ q, va_A wc H.size q → A0 q) (hP1 : va_P D cl w1 H1) (hD1 : va_D (va_A wc H.size) w1) : va_P D cl ws' H1 ∧ va_D A0 ws' := by
  subst hU
  have got : ∀ (k : Nat) (q : Nat × va_E), (zsrc w1 ws src)[k]? = some q → (∃ j : Nat, isC[j]? = some k ∧ w1[j]? = some q) ∨ (k ∉ isC ∧ ws[k]? = some q) := by
    intro k q h
    rcases zsrc_get ws src k q h with ⟨j, h1, h2⟩ | ⟨h1, h2⟩
    · have h3 := zokA_get ha h1
      rw [Nat.zero_add] at h3
      rcases h2 with h2 | h2
      · exact Or.inl ⟨j, h3, h2⟩
      · have h4 := (List.getElem?_eq_some_iff.mp h3).1
        have h5 := List.getElem?_eq_none_iff.mp h2
        omega
    · refine Or.inr ⟨fun hm => ?_, h2⟩
      obtain ⟨j, hj⟩ := zokB_get hb hm
      exact h1 j hj
  have apart : ∀ (k : Nat) (q : Nat × va_E), k ∉ isC → ws[k]? = some q → q.1 < H.size ∧ ¬ va_A wc H.size q.1 := by
    intro k q hk1 h2
    have hlt := (hP k q h2).lt
    refine ⟨hlt, fun h => ?_⟩
    rcases h with ⟨k2, e, h⟩ | h
    · obtain ⟨j, h3, h4⟩ := zmap_at hC k2 (q.1, e) h
      have hij := hD.1 k j q (q.1, e) h2 h4 rfl
      subst hij
      exact hk1 (List.mem_of_getElem? h3)
    · omega
  refine ⟨fun k q hq => ?_, fun i j x y hi hj hxy => ?_, fun k q hq => ?_⟩
  · rcases got k q hq with ⟨j, h1, h2⟩ | ⟨h1, h2⟩
    · exact hP1 j q h2
    · obtain ⟨g1, g2⟩ := apart k q h1 h2
      exact (hP k q h2).kept (hk q.1 g1 g2)
  · rcases got i x hi with ⟨a, h1, h2⟩ | ⟨h1, h2⟩
    · rcases got j y hj with ⟨b, h3, h4⟩ | ⟨h3, h4⟩
      · have hab := hD1.1 a b x y h2 h4 hxy
        subst hab
        rw [h1] at h3
        exact Option.some.inj h3
      · exact absurd (by rw [← hxy]; exact hD1.2 a x h2) (apart j y h3 h4).2
    · rcases got j y hj with ⟨b, h3, h4⟩ | ⟨h3, h4⟩
      · exact absurd (by rw [hxy]; exact hD1.2 b y h4) (apart i x h1 h2).2
      · exact hD.1 i j x y h2 h4 hxy
  · rcases got k q hq with ⟨j, h1, h2⟩ | ⟨h1, h2⟩
    · exact hF _ (hD1.2 j q h2)
    · exact hD.2 k q h2
theorem zrecv {s : State} {H : Heap} {D : va_G} {cl : List vw_C} {a q0 ci : Nat} {C : String} {T : u_T} {N : Nat} {fs : List Value} {ws : va_W} {tys : List (ClassId × FieldType)} (hK : va_K D cl tys s) (hP : va_P D cl ws H) (hc : cl[ci]? = some (C, T, N)) (he : ws[q0]? = some (a, .inr (ci, fs))) : ∃ cell : Cell, H[a]? = some cell ∧ cell.vm.isStatics = false ∧ s.vm.findClass C = some cell.cls := va_recv hK hP hc he
theorem zPD {A0 : Nat → Prop} {D : va_G} {cl : List vw_C} {ws ws' : va_W} {H : Heap} (hP : va_P D cl ws H) (hD : va_D A0 ws) (is : List Nat) (hn : va_nd is = true) (hs : is.map (fun i => ws[i]?) = ws'.map some) : va_P D cl ws' H ∧ va_D A0 ws' := ⟨hP.sub is (zfm hs), hD.sub is hn hs⟩
theorem zQ {p : Program} {l : Launch} {e : Env} {R : Room} {s : State} {m : MethodId} {args : Array Value} {below : List Frame} {meth : Method} {c : Code} {H : Heap} {locs : List Loc} {cells slots : Nat} {X : State → Prop} {g : JFrame} (k : ∀ Q : State → Prop, X = Q → W p l e R s m args below meth c H locs cells slots Q g) : W p l e R s m args below meth c H locs cells slots X g := k X rfl
theorem zjn {A0 : Nat → Prop} {D : va_G} {cl : List vw_C} {ws wc w1 ws' : va_W} {H H1 : Heap} (hP : va_P D cl ws H) (hD : va_D A0 ws) (isC : List Nat) (hC : isC.map (fun i => ws[i]?) = wc.map some) (hk : ∀ q : Nat, q < H.size → ¬ va_A wc H.size q → H1[q]? = H[q]?) (hF : ∀ q, va_A wc H.size q → A0 q) (hP1 : va_P D cl w1 H1) (hD1 : va_D (va_A wc H.size) w1) (src : List (Option Nat)) (ha : zokA isC src 0 = true) (hb : zokB isC src = true) (hl : isC.length = w1.length) (hU : zsrc w1 ws src = ws') : va_P D cl ws' H1 ∧ va_D A0 ws' := zjoin hP hD isC hC src ha hb hl hU hk hF hP1 hD1
