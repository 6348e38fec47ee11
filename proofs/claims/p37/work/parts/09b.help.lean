/-- what a search makes: only where it wasn't ready before -/
noncomputable def zc (a b : Int32) (k : Nat) : Nat := if a = 0 then (if b = 1 then k else 0) else 0
theorem zc_le {a : Int32} (h : a = 0) (k : Nat) : k ≤ zc a 1 k := by
  subst h
  exact Nat.le_refl _
/-! a call of a method that may use less room than it asks for -/
theorem zback {p : Program} {l : Launch} {e : Env} {R : Room} {s : State} {args : Array Value} {below : List Frame} {y : MethodName} {bytes : ByteArray} {maxL mc ms n index : Nat} {ret : Option FieldType} {ws : List Cond} {rm : Room} {Pc : Array Value → State → Prop} {Qc : Array Value → State → Outcome → State → Prop} {free : Addr → Prop} {own : String}
    (hM : Met l y ws rm Pc Qc mc ms free) (hbl : FrameBlind Pc) (cb : CallB R s args own index y bytes maxL ret ws rm rm.cells rm.slots n) : Back l R p e below s args y 3 8 (PreOf R rm.cells rm.slots Pc) (PostOf Qc mc ms free) := by
  obtain ⟨-, -, hfr, hlo, hws, hcw, -, hini, -⟩ := cb
  refine Back.of_free (S := headSpec ws rm) (P := Pc) (K := fun _ _ _ _ _ => True) (Q := fun a st o t => Qc a st o t ∧ ∃ L, FrameEnd st o t L mc ms ∧ ∀ q ∈ L, free q.base) (bytes := bytes) (maxL := maxL) (ret := ret) (E := fun _ _ _ _ L k n => k = mc ∧ n = ms ∧ ∀ q ∈ L, free q.base) hM hfr hlo ?_ ?_ (fun _ _ _ _ _ _ _ _ _ => trivial) ?_ ?_
  · intro _ _ _ A a X hp
    exact ⟨atoms_intro fun w hw => hws w hw _ _ X.warmed, hws _ hcw _ _ X.warmed, word_at X.warmed (Or.inl (by first | rfl | simp [Cond.onTables, Cond.keeps, Cond.steady])) hini, hp.1, hp.2.1⟩
  · intro _ _ _ _ _ _ _ _ hp
    exact hbl _ _ _ _ hp.2.2
  · intro _ _ _ _ ⟨_, L, hF, hL⟩
    exact ⟨L, mc, ms, hF, rfl, rfl, hL⟩
  · intro _ _ _ _ _ g mk _ t L _ _ _ _ hq _ ⟨e1, e2, hL⟩
    subst e1; subst e2
    exact ⟨g, mk, t, L, rfl, rfl, hq.1, rfl, hL, rfl, rfl⟩
theorem zrunV {p : Program} {l : Launch} {e : Env} {R : Room} {s : State} {m : MethodId} {args : Array Value} {below : List Frame} {meth : Method} {c : Code} {H : Heap} {locs : List Loc} {cells slots : Nat} {y : MethodName} {bytes cc : ByteArray} {maxL nL mc ms n index : Nat} {ret : Option FieldType} {ws : List Cond} {rm : Room} {Pc : Array Value → State → Prop} {Qc : Array Value → State → Outcome → State → Prop} {free : Addr → Prop} {Ts : List Cond} {own C : String} {b : Addr} {As rest : List Value} {g : JFrame}
    (S : CallFix p m c cc nL s args Ts own) (hM : Met l y ws rm Pc Qc mc ms free) (cw : CallW R s args own C index y bytes maxL ret ws rm rm.cells rm.slots n) (hp : PreV s H C b Pc As)
    (hg : g.method = m) (hn : As.length = n) (hsize : g.locals.size = nL) (hstack : g.stack = As.reverse ++ .ref b :: rest) (hW : 2 * g.monitorRoom + (rest.map fun v => v.category).sum ≤ 8) (hdg : decode cc g.pc = .ok (.invokevirtual index, 3)) (hf : cells + rm.cells ≤ R.cells ∧ slots + rm.slots ≤ R.slots) :
    va_Run p l e R s m args below meth c H locs cells slots mc ms g rest (Qc (Value.ref b :: As).toArray) (free) := by
  have hK : Back l R p e below s args y 3 8 (PreOf R rm.cells rm.slots Pc) (PostOf Qc mc ms free) := zback hM hp.1 cw.1
  obtain ⟨⟨-, -, -, -, -, -, hcode, -, hy, hlen, hl⟩, hin, hse⟩ := cw
  obtain ⟨hx, hb, hml, ho, -⟩ := S
  obtain ⟨-, ⟨cellB, hcB, hoB, hclB⟩, hPc⟩ := hp
  intro T hT X
  obtain ⟨v, vm₁, ⟨U', l2, c2, s2⟩, hW₁, X', ⟨g', mk, t, L, e1, e2, hq, h1, hL, h2, h3⟩, st⟩ := callV X hx (C := C) (bytes := bytes) (maxL := maxL) (ret := ret) ho hl hin hse hcode hy hK (by rw [hT]; exact hcB) hoB hclB hg (hsize.trans hml.symm) (argsL := As) (rest := rest) (fun sig h => hn.trans (hlen sig h)) hstack hW (by rw [hb]; exact hdg)
    (fun vm₁ hW₁ => ⟨hf.1, hf.2, hPc (T.setVm vm₁) hT hW₁⟩)
  dsimp only [Pt.U, Pt.locs, Pt.cells, Pt.slots] at X' e1 e2 h1 h2 h3 st
  subst h1; subst h2; subst h3
  exact ⟨v, (T.setVm vm₁).calling g' mk (Value.ref b :: As).toArray, t, U', L, hT, X', hL, e1, e2, hq, st⟩
/-- the reference's fields: references, ints, longs -/
noncomputable def zO (a : Nat → Nat) (b : Nat → Int32) (c : Nat → Int64) : List Value := [.ref (a 0), .int (b 1), .ref (a 2), .int (b 3), .int (b 4), .int (b 5), .int (b 6), .int (b 7), .int (b 8), .int (b 9), .ref (a 10), .int (b 11), .ref (a 12), .ref (a 13), .ref (a 14), .ref (a 15), .ref (a 16), .ref (a 17), .ref (a 18), .ref (a 19), .ref (a 20), .ref (a 21), .ref (a 22), .ref (a 23), .ref (a 24), .ref (a 25), .ref (a 26), .ref (a 27), .long (c 28), .ref (a 29), .int (b 30), .ref (a 31), .ref (a 32), .int (b 33), .long (c 34), .ref (a 35), .ref (a 36), .ref (a 37), .int (b 38), .ref (a 39), .ref (a 40), .int (b 41), .int (b 42), .ref (a 43), .int (b 44), .int (b 45), .ref (a 46), .ref (a 47), .ref (a 48), .ref (a 49), .int (b 50), .int (b 51), .int (b 52), .int (b 53), .ref (a 54), .ref (a 55), .ref (a 56), .int (b 57), .int (b 58), .int (b 59), .ref (a 60), .ref (a 61), .ref (a 62), .ref (a 63), .int (b 64), .ref (a 65), .ref (a 66)]
noncomputable def zI (f : Nat → Int32) (k : Nat) (x : Int32) (j : Nat) : Int32 := cond (Nat.beq j k) x (f j)
noncomputable def zJ (f : Nat → Int64) (k : Nat) (x : Int64) (j : Nat) : Int64 := cond (Nat.beq j k) x (f j)
theorem zci_m1 : Int32.ofInt (-1) = ((-1) : Int32) := by decide +kernel
theorem zci_0 : Int32.ofInt 0 = (0 : Int32) := by decide +kernel
theorem zci_1 : Int32.ofInt 1 = (1 : Int32) := by decide +kernel
theorem zci_2 : Int32.ofInt 2 = (2 : Int32) := by decide +kernel
theorem zci_3 : Int32.ofInt 3 = (3 : Int32) := by decide +kernel
theorem zci_4 : Int32.ofInt 4 = (4 : Int32) := by decide +kernel
theorem zci_5 : Int32.ofInt 5 = (5 : Int32) := by decide +kernel
theorem zcb_m2 : (Int8.ofInt (-2)).toInt32 = ((-2) : Int32) := by decide +kernel
theorem zcb_6 : (Int8.ofInt 6).toInt32 = (6 : Int32) := by decide +kernel
theorem zcb_7 : (Int8.ofInt 7).toInt32 = (7 : Int32) := by decide +kernel
theorem zcb_8 : (Int8.ofInt 8).toInt32 = (8 : Int32) := by decide +kernel
theorem zcb_9 : (Int8.ofInt 9).toInt32 = (9 : Int32) := by decide +kernel
theorem zcb_10 : (Int8.ofInt 10).toInt32 = (10 : Int32) := by decide +kernel
theorem zcb_11 : (Int8.ofInt 11).toInt32 = (11 : Int32) := by decide +kernel
theorem zcb_12 : (Int8.ofInt 12).toInt32 = (12 : Int32) := by decide +kernel
theorem zcb_13 : (Int8.ofInt 13).toInt32 = (13 : Int32) := by decide +kernel
theorem zcb_14 : (Int8.ofInt 14).toInt32 = (14 : Int32) := by decide +kernel
theorem zcb_16 : (Int8.ofInt 16).toInt32 = (16 : Int32) := by decide +kernel
theorem zcb_17 : (Int8.ofInt 17).toInt32 = (17 : Int32) := by decide +kernel
theorem zcb_20 : (Int8.ofInt 20).toInt32 = (20 : Int32) := by decide +kernel
theorem zcb_24 : (Int8.ofInt 24).toInt32 = (24 : Int32) := by decide +kernel
theorem zcb_25 : (Int8.ofInt 25).toInt32 = (25 : Int32) := by decide +kernel
theorem zcb_28 : (Int8.ofInt 28).toInt32 = (28 : Int32) := by decide +kernel
theorem zcb_31 : (Int8.ofInt 31).toInt32 = (31 : Int32) := by decide +kernel
theorem zcb_32 : (Int8.ofInt 32).toInt32 = (32 : Int32) := by decide +kernel
theorem zcb_40 : (Int8.ofInt 40).toInt32 = (40 : Int32) := by decide +kernel
theorem zcb_42 : (Int8.ofInt 42).toInt32 = (42 : Int32) := by decide +kernel
theorem zcb_43 : (Int8.ofInt 43).toInt32 = (43 : Int32) := by decide +kernel
theorem zcb_45 : (Int8.ofInt 45).toInt32 = (45 : Int32) := by decide +kernel
theorem zcb_48 : (Int8.ofInt 48).toInt32 = (48 : Int32) := by decide +kernel
theorem zcb_57 : (Int8.ofInt 57).toInt32 = (57 : Int32) := by decide +kernel
theorem zcb_59 : (Int8.ofInt 59).toInt32 = (59 : Int32) := by decide +kernel
theorem zcb_61 : (Int8.ofInt 61).toInt32 = (61 : Int32) := by decide +kernel
theorem zcb_96 : (Int8.ofInt 96).toInt32 = (96 : Int32) := by decide +kernel
theorem zcb_97 : (Int8.ofInt 97).toInt32 = (97 : Int32) := by decide +kernel
theorem zcb_122 : (Int8.ofInt 122).toInt32 = (122 : Int32) := by decide +kernel
theorem zcs_255 : (Int16.ofInt 255).toInt32 = (255 : Int32) := by decide +kernel
theorem zcs_999 : (Int16.ofInt 999).toInt32 = (999 : Int32) := by decide +kernel
theorem zcs_1180 : (Int16.ofInt 1180).toInt32 = (1180 : Int32) := by decide +kernel
theorem zcs_1200 : (Int16.ofInt 1200).toInt32 = (1200 : Int32) := by decide +kernel
