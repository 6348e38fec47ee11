theorem zn_X10_findOwn_X10 : ∀ w ∈ wsX100, w ∈ wsX10_findOwn := fun _ h => List.mem_cons_of_mem _ (List.mem_append_right _ h)
theorem zw_X10_findOwn_249 : Cond.fieldLink RX10 11 "ShortEnough$Words" "ownNames" "[I" ∈ wsX10_findOwn := by decide +kernel
theorem zn_X10_addByte_X10 : ∀ w ∈ wsX100, w ∈ wsX10_addByte := fun _ h => List.mem_cons_of_mem _ (List.mem_append_right _ h)
theorem zw_X10_addByte_251 : Cond.fieldLink RX10 46 "ShortEnough$Words" "kind" "I" ∈ wsX10_addByte := by decide +kernel
theorem zw_X10_addByte_252 : Cond.fieldLink RX10 59 "ShortEnough$Words" "value" "I" ∈ wsX10_addByte := by decide +kernel
theorem zn_X10_isSign_X10 : ∀ w ∈ wsX100, w ∈ wsX10_isSign := fun _ h => List.mem_cons_of_mem _ (List.mem_append_right _ h)
theorem zw_X10_isSign_254 : Cond.fieldLink RX10 46 "ShortEnough$Words" "kind" "I" ∈ wsX10_isSign := by decide +kernel
theorem zw_X10_isSign_255 : Cond.fieldLink RX10 59 "ShortEnough$Words" "value" "I" ∈ wsX10_isSign := by decide +kernel
theorem zn_X10_isOwn_X10 : ∀ w ∈ wsX100, w ∈ wsX10_isOwn := fun _ h => List.mem_cons_of_mem _ (List.mem_append_right _ h)
theorem zw_X10_isOwn_257 : Cond.fieldLink RX10 46 "ShortEnough$Words" "kind" "I" ∈ wsX10_isOwn := by decide +kernel
theorem zw_X10_isOwn_258 : Cond.fieldLink RX10 70 "ShortEnough$Words" "own" "I" ∈ wsX10_isOwn := by decide +kernel
theorem zn_X10_isName_X10 : ∀ w ∈ wsX100, w ∈ wsX10_isName := fun _ h => List.mem_cons_of_mem _ (List.mem_append_right _ h)
theorem zw_X10_isName_260 : Cond.fieldLink RX10 46 "ShortEnough$Words" "kind" "I" ∈ wsX10_isName := by decide +kernel
theorem zw_X10_isName_261 : Cond.fieldLink RX10 70 "ShortEnough$Words" "own" "I" ∈ wsX10_isName := by decide +kernel
theorem zn_X10_advance_X10 : ∀ w ∈ wsX100, w ∈ wsX10_advance := fun _ h => List.mem_cons_of_mem _ (List.mem_append_right _ h)
theorem zw_X10_advance_263 : Cond.fieldLink RX10 43 "ShortEnough$Words" "place" "I" ∈ wsX10_advance := by decide +kernel
theorem zw_X10_advance_264 : Cond.fieldLink RX10 46 "ShortEnough$Words" "kind" "I" ∈ wsX10_advance := by decide +kernel
theorem zw_X10_advance_265 : Cond.fieldLink RX10 40 "ShortEnough$Words" "length" "I" ∈ wsX10_advance := by decide +kernel
theorem zw_X10_advance_266 : Cond.fieldLink RX10 15 "ShortEnough$Words" "text" "[B" ∈ wsX10_advance := by decide +kernel
theorem zw_X10_advance_267 : Cond.fieldLink RX10 56 "ShortEnough$Words" "start" "I" ∈ wsX10_advance := by decide +kernel
theorem zw_X10_advance_268 : Cond.fieldLink RX10 59 "ShortEnough$Words" "value" "I" ∈ wsX10_advance := by decide +kernel
theorem zw_X10_advance_269 : Cond.fieldLink RX10 70 "ShortEnough$Words" "own" "I" ∈ wsX10_advance := by decide +kernel
theorem zn_X10_open_X10 : ∀ w ∈ wsX100, w ∈ wsX10_open := fun _ h => List.mem_cons_of_mem _ (List.mem_append_right _ h)
theorem zw_X10_open_271 : Cond.fieldLink RX10 15 "ShortEnough$Words" "text" "[B" ∈ wsX10_open := by decide +kernel
theorem zw_X10_open_272 : Cond.methodLink RX10 31 Lib.Math.min.name ∈ wsX10_open := by decide +kernel
theorem zw_X10_open_273 : Cond.static Lib.Math.min.name ∈ wsX10_open := by decide +kernel
theorem zw_X10_open_274 : Cond.initialized "java/lang/Math" ∈ wsX10_open := by decide +kernel
theorem zw_X10_open_275 : Cond.code Lib.Math.min.name Lib.Math.min.code 2 (some .int) ∈ wsX10_open := by decide +kernel
theorem zw_X10_open_276 : Cond.methodLink RX10 37 Lib.Math.max.name ∈ wsX10_open := by decide +kernel
theorem zw_X10_open_277 : Cond.static Lib.Math.max.name ∈ wsX10_open := by decide +kernel
theorem zw_X10_open_278 : Cond.code Lib.Math.max.name Lib.Math.max.code 2 (some .int) ∈ wsX10_open := by decide +kernel
theorem zw_X10_open_279 : Cond.fieldLink RX10 40 "ShortEnough$Words" "length" "I" ∈ wsX10_open := by decide +kernel
theorem zw_X10_open_280 : Cond.fieldLink RX10 43 "ShortEnough$Words" "place" "I" ∈ wsX10_open := by decide +kernel
theorem zw_X10_open_281 : Cond.fieldLink RX10 46 "ShortEnough$Words" "kind" "I" ∈ wsX10_open := by decide +kernel
theorem zn_X5_stopAt_X5 : ∀ w ∈ wsX50, w ∈ wsX5_stopAt := fun _ h => List.mem_cons_of_mem _ (List.mem_append_right _ h)
theorem zw_X5_stopAt_283 : Cond.fieldLink RX5 22 "ShortEnough$Parser" "faultKind" "I" ∈ wsX5_stopAt := by decide +kernel
theorem zw_X5_stopAt_284 : Cond.fieldLink RX5 18 "ShortEnough$Parser" "faultPlace" "I" ∈ wsX5_stopAt := by decide +kernel
theorem zn_X5_isFull_X9 : ∀ w ∈ wsX90, w ∈ wsX5_isFull := fun _ h => List.mem_cons_of_mem _ (List.mem_append_left _ (List.mem_append_right _ h))
theorem zw_X5_isFull_286 : Cond.fieldLink RX5 44 "ShortEnough$Task" "numbers" "LShortEnough$Numbers;" ∈ wsX5_isFull := by decide +kernel
theorem zn_X5_isFull_X4 : ∀ w ∈ wsX40, w ∈ wsX5_isFull := fun _ h => List.mem_cons_of_mem _ (List.mem_append_right _ h)
theorem zw_X5_isFull_288 : Cond.fieldLink RX5 48 "ShortEnough$Numbers" "count" "I" ∈ wsX5_isFull := by decide +kernel
theorem zw_X5_isFull_289 : Cond.fieldLink RX5 41 "ShortEnough$Task" "formats" "I" ∈ wsX5_isFull := by decide +kernel
theorem zn_X5_readSign_X5 : ∀ w ∈ wsX50, w ∈ wsX5_readSign := fun _ h => List.mem_cons_of_mem _ (List.mem_append_left _ (List.mem_append_right _ h))
theorem zw_X5_readSign_291 : Cond.fieldLink RX5 12 "ShortEnough$Parser" "words" "LShortEnough$Words;" ∈ wsX5_readSign := by decide +kernel
theorem zn_X5_readSign_X10 : ∀ w ∈ wsX100, w ∈ wsX5_readSign := fun _ h => List.mem_cons_of_mem _ (List.mem_append_right _ h)
theorem zw_X5_readSign_293 : Cond.fieldLink RX5 64 "ShortEnough$Words" "start" "I" ∈ wsX5_readSign := by decide +kernel
theorem zn_X5_readOwn_X5 : ∀ w ∈ wsX50, w ∈ wsX5_readOwn := fun _ h => List.mem_cons_of_mem _ (List.mem_append_left _ (List.mem_append_right _ h))
theorem zw_X5_readOwn_295 : Cond.fieldLink RX5 12 "ShortEnough$Parser" "words" "LShortEnough$Words;" ∈ wsX5_readOwn := by decide +kernel
theorem zn_X5_readOwn_X10 : ∀ w ∈ wsX100, w ∈ wsX5_readOwn := fun _ h => List.mem_cons_of_mem _ (List.mem_append_right _ h)
theorem zw_X5_readOwn_297 : Cond.fieldLink RX5 64 "ShortEnough$Words" "start" "I" ∈ wsX5_readOwn := by decide +kernel
theorem zn_X5_readValue_X5 : ∀ w ∈ wsX50, w ∈ wsX5_readValue := fun _ h => List.mem_cons_of_mem _ (List.mem_append_left _ (List.mem_append_right _ h))
theorem zw_X5_readValue_299 : Cond.fieldLink RX5 12 "ShortEnough$Parser" "words" "LShortEnough$Words;" ∈ wsX5_readValue := by decide +kernel
theorem zn_X5_readValue_X10 : ∀ w ∈ wsX100, w ∈ wsX5_readValue := fun _ h => List.mem_cons_of_mem _ (List.mem_append_right _ h)
theorem zw_X5_readValue_301 : Cond.fieldLink RX5 64 "ShortEnough$Words" "start" "I" ∈ wsX5_readValue := by decide +kernel
theorem zw_X5_readValue_302 : Cond.fieldLink RX5 34 "ShortEnough$Words" "kind" "I" ∈ wsX5_readValue := by decide +kernel
theorem zw_X5_readValue_303 : Cond.fieldLink RX5 138 "ShortEnough$Words" "value" "I" ∈ wsX5_readValue := by decide +kernel
theorem zw_X5_readValue_304 : Cond.fieldLink RX5 102 "ShortEnough$Parser" "got" "I" ∈ wsX5_readValue := by decide +kernel
theorem zn_X5_readNewName_X5 : ∀ w ∈ wsX50, w ∈ wsX5_readNewName := fun _ h => List.mem_cons_of_mem _ (List.mem_append_left _ (List.mem_append_left _ (List.mem_append_left _ (List.mem_append_right _ h))))
theorem zw_X5_readNewName_306 : Cond.fieldLink RX5 12 "ShortEnough$Parser" "words" "LShortEnough$Words;" ∈ wsX5_readNewName := by decide +kernel
theorem zn_X5_readNewName_X10 : ∀ w ∈ wsX100, w ∈ wsX5_readNewName := fun _ h => List.mem_cons_of_mem _ (List.mem_append_left _ (List.mem_append_left _ (List.mem_append_right _ h)))
theorem zw_X5_readNewName_308 : Cond.fieldLink RX5 138 "ShortEnough$Words" "value" "I" ∈ wsX5_readNewName := by decide +kernel
theorem zw_X5_readNewName_309 : Cond.fieldLink RX5 64 "ShortEnough$Words" "start" "I" ∈ wsX5_readNewName := by decide +kernel
theorem zn_X5_readNewName_X9 : ∀ w ∈ wsX90, w ∈ wsX5_readNewName := fun _ h => List.mem_cons_of_mem _ (List.mem_append_left _ (List.mem_append_right _ h))
theorem zw_X5_readNewName_311 : Cond.fieldLink RX5 44 "ShortEnough$Task" "numbers" "LShortEnough$Numbers;" ∈ wsX5_readNewName := by decide +kernel
theorem zw_X5_readNewName_312 : Cond.fieldLink RX5 102 "ShortEnough$Parser" "got" "I" ∈ wsX5_readNewName := by decide +kernel
theorem zn_X5_readKnown_X5 : ∀ w ∈ wsX50, w ∈ wsX5_readKnown := fun _ h => List.mem_cons_of_mem _ (List.mem_append_left _ (List.mem_append_right _ h))
theorem zw_X5_readKnown_314 : Cond.fieldLink RX5 12 "ShortEnough$Parser" "words" "LShortEnough$Words;" ∈ wsX5_readKnown := by decide +kernel
theorem zw_X5_readKnown_315 : Cond.fieldLink RX5 102 "ShortEnough$Parser" "got" "I" ∈ wsX5_readKnown := by decide +kernel
theorem zn_X5_readKnown_X10 : ∀ w ∈ wsX100, w ∈ wsX5_readKnown := fun _ h => List.mem_cons_of_mem _ (List.mem_append_right _ h)
theorem zw_X5_readKnown_317 : Cond.fieldLink RX5 64 "ShortEnough$Words" "start" "I" ∈ wsX5_readKnown := by decide +kernel
theorem zn_X5_readCast_X5 : ∀ w ∈ wsX50, w ∈ wsX5_readCast := fun _ h => List.mem_cons_of_mem _ (List.mem_append_left _ (List.mem_append_left _ (List.mem_append_right _ h)))
theorem zw_X5_readCast_319 : Cond.fieldLink RX5 102 "ShortEnough$Parser" "got" "I" ∈ wsX5_readCast := by decide +kernel
theorem zn_X5_readCast_X9 : ∀ w ∈ wsX90, w ∈ wsX5_readCast := fun _ h => List.mem_cons_of_mem _ (List.mem_append_left _ (List.mem_append_right _ h))
theorem zw_X5_readCast_321 : Cond.fieldLink RX5 118 "ShortEnough$Task" "castPrice" "I" ∈ wsX5_readCast := by decide +kernel
theorem zn_X5_readFormat_X5 : ∀ w ∈ wsX50, w ∈ wsX5_readFormat := fun _ h => List.mem_cons_of_mem _ (List.mem_append_left _ (List.mem_append_left _ (List.mem_append_left _ (List.mem_append_right _ h))))
theorem zw_X5_readFormat_323 : Cond.fieldLink RX5 102 "ShortEnough$Parser" "got" "I" ∈ wsX5_readFormat := by decide +kernel
theorem zw_X5_readFormat_324 : Cond.constant RX5 108 (1000000) ∈ wsX5_readFormat := by decide +kernel
theorem zw_X5_readFormat_325 : Cond.constant RX5 113 (1000000000) ∈ wsX5_readFormat := by decide +kernel
theorem zn_X1_forget_X1 : ∀ w ∈ wsX10, w ∈ wsX1_forget := fun _ h => List.mem_cons_of_mem _ (List.mem_append_right _ h)
theorem zw_X1_forget_327 : Cond.fieldLink RX1 44 "ShortEnough$FullSearch" "ready" "Z" ∈ wsX1_forget := by decide +kernel
theorem zw_X1_forget_328 : Cond.fieldLink RX1 32 "ShortEnough$FullSearch" "frontOf" "I" ∈ wsX1_forget := by decide +kernel
theorem zn_X3_forget_X3 : ∀ w ∈ wsX30, w ∈ wsX3_forget := fun _ h => List.mem_cons_of_mem _ (List.mem_append_right _ h)
theorem zw_X3_forget_330 : Cond.fieldLink RX3 45 "ShortEnough$LocalSearch" "ready" "Z" ∈ wsX3_forget := by decide +kernel
theorem zn_X0_forget_X0 : ∀ w ∈ wsX00, w ∈ wsX0_forget := fun _ h => List.mem_cons_of_mem _ (List.mem_append_right _ h)
theorem zw_X0_forget_332 : Cond.fieldLink RX0 29 "ShortEnough$CertificateReader" "breaksAt" "I" ∈ wsX0_forget := by decide +kernel
theorem zw_X0_forget_333 : Cond.fieldLink RX0 33 "ShortEnough$CertificateReader" "reason" "I" ∈ wsX0_forget := by decide +kernel
theorem zn_X11_end_X11 : ∀ w ∈ wsX110, w ∈ wsX11_end := fun _ h => List.mem_cons_of_mem _ (List.mem_append_right _ h)
theorem zw_X11_end_335 : Cond.fieldLink RX11 89 "ShortEnough" "tapeLength" "I" ∈ wsX11_end := by decide +kernel
theorem zn_X11_fault_X11 : ∀ w ∈ wsX110, w ∈ wsX11_fault := fun _ h => List.mem_cons_of_mem _ (List.mem_append_left _ (List.mem_append_right _ h))
theorem zw_X11_fault_337 : Cond.fieldLink RX11 20 "ShortEnough" "parser" "LShortEnough$Parser;" ∈ wsX11_fault := by decide +kernel
theorem zn_X11_fault_X5 : ∀ w ∈ wsX50, w ∈ wsX11_fault := fun _ h => List.mem_cons_of_mem _ (List.mem_append_right _ h)
theorem zw_X11_fault_339 : Cond.fieldLink RX11 134 "ShortEnough$Parser" "faultPlace" "I" ∈ wsX11_fault := by decide +kernel
theorem zw_X11_fault_340 : Cond.fieldLink RX11 131 "ShortEnough$Parser" "faultKind" "I" ∈ wsX11_fault := by decide +kernel
theorem zn_X11_has_X11 : ∀ w ∈ wsX110, w ∈ wsX11_has := fun _ h => List.mem_cons_of_mem _ (List.mem_append_left _ (List.mem_append_left _ (List.mem_append_left _ (List.mem_append_right _ h))))
theorem zw_X11_has_342 : Cond.fieldLink RX11 27 "ShortEnough" "current" "LShortEnough$Task;" ∈ wsX11_has := by decide +kernel
theorem zn_X11_has_X9 : ∀ w ∈ wsX90, w ∈ wsX11_has := fun _ h => List.mem_cons_of_mem _ (List.mem_append_left _ (List.mem_append_left _ (List.mem_append_right _ h)))
theorem zw_X11_has_344 : Cond.fieldLink RX11 122 "ShortEnough$Task" "numbers" "LShortEnough$Numbers;" ∈ wsX11_has := by decide +kernel
theorem zn_X11_has_X4 : ∀ w ∈ wsX40, w ∈ wsX11_has := fun _ h => List.mem_cons_of_mem _ (List.mem_append_left _ (List.mem_append_right _ h))
theorem zw_X11_has_346 : Cond.fieldLink RX11 126 "ShortEnough$Numbers" "count" "I" ∈ wsX11_has := by decide +kernel
theorem zw_X11_has_347 : Cond.fieldLink RX11 137 "ShortEnough$Task" "formats" "I" ∈ wsX11_has := by decide +kernel
theorem zw_X11_has_348 : Cond.fieldLink RX11 140 "ShortEnough$Numbers" "inputs" "I" ∈ wsX11_has := by decide +kernel
theorem zw_X11_has_349 : Cond.fieldLink RX11 107 "ShortEnough$Task" "groups" "LShortEnough$Groups;" ∈ wsX11_has := by decide +kernel
theorem zn_X11_has_X2 : ∀ w ∈ wsX20, w ∈ wsX11_has := fun _ h => List.mem_cons_of_mem _ (List.mem_append_right _ h)
theorem zw_X11_has_351 : Cond.fieldLink RX11 146 "ShortEnough$Groups" "count" "I" ∈ wsX11_has := by decide +kernel
theorem zw_X11_has_352 : Cond.fieldLink RX11 147 "ShortEnough$Groups" "free" "I" ∈ wsX11_has := by decide +kernel
theorem zw_X11_has_353 : Cond.fieldLink RX11 150 "ShortEnough$Task" "castPrice" "I" ∈ wsX11_has := by decide +kernel
theorem zw_X11_has_354 : Cond.fieldLink RX11 85 "ShortEnough" "seedNow" "I" ∈ wsX11_has := by decide +kernel
theorem zn_X11_letter_X11 : ∀ w ∈ wsX110, w ∈ wsX11_letter := fun _ h => List.mem_cons_of_mem _ (List.mem_append_left _ (List.mem_append_left _ (List.mem_append_right _ h)))
theorem zw_X11_letter_356 : Cond.fieldLink RX11 27 "ShortEnough" "current" "LShortEnough$Task;" ∈ wsX11_letter := by decide +kernel
theorem zn_X11_letter_X9 : ∀ w ∈ wsX90, w ∈ wsX11_letter := fun _ h => List.mem_cons_of_mem _ (List.mem_append_left _ (List.mem_append_right _ h))
theorem zw_X11_letter_358 : Cond.fieldLink RX11 122 "ShortEnough$Task" "numbers" "LShortEnough$Numbers;" ∈ wsX11_letter := by decide +kernel
theorem zn_X11_letter_X4 : ∀ w ∈ wsX40, w ∈ wsX11_letter := fun _ h => List.mem_cons_of_mem _ (List.mem_append_right _ h)
theorem zw_X11_letter_360 : Cond.fieldLink RX11 163 "ShortEnough$Numbers" "name" "[I" ∈ wsX11_letter := by decide +kernel
theorem zw_X11_letter_361 : Cond.fieldLink RX11 160 "ShortEnough$Task" "formatName" "[I" ∈ wsX11_letter := by decide +kernel
theorem zn_X11_format_X11 : ∀ w ∈ wsX110, w ∈ wsX11_format := fun _ h => List.mem_cons_of_mem _ (List.mem_append_left _ (List.mem_append_right _ h))
theorem zw_X11_format_363 : Cond.fieldLink RX11 27 "ShortEnough" "current" "LShortEnough$Task;" ∈ wsX11_format := by decide +kernel
theorem zn_X11_format_X9 : ∀ w ∈ wsX90, w ∈ wsX11_format := fun _ h => List.mem_cons_of_mem _ (List.mem_append_right _ h)
theorem zw_X11_format_365 : Cond.fieldLink RX11 170 "ShortEnough$Task" "step" "[I" ∈ wsX11_format := by decide +kernel
theorem zw_X11_format_366 : Cond.fieldLink RX11 173 "ShortEnough$Task" "most" "[I" ∈ wsX11_format := by decide +kernel
theorem zw_X11_format_367 : Cond.fieldLink RX11 176 "ShortEnough$Task" "price" "[I" ∈ wsX11_format := by decide +kernel
theorem zn_X11_seed_X11 : ∀ w ∈ wsX110, w ∈ wsX11_seed := fun _ h => List.mem_cons_of_mem _ (List.mem_append_right _ h)
theorem zw_X11_seed_369 : Cond.fieldLink RX11 85 "ShortEnough" "seedNow" "I" ∈ wsX11_seed := by decide +kernel
theorem zn_X11_status_X11 : ∀ w ∈ wsX110, w ∈ wsX11_status := fun _ h => List.mem_cons_of_mem _ (List.mem_append_right _ h)
theorem zw_X11_status_371 : Cond.fieldLink RX11 13 "ShortEnough" "refused" "[I" ∈ wsX11_status := by decide +kernel
theorem zn_X11_feed_X11 : ∀ w ∈ wsX110, w ∈ wsX11_feed := fun _ h => List.mem_cons_of_mem _ (List.mem_append_right _ h)
theorem zw_X11_feed_373 : Cond.fieldLink RX11 89 "ShortEnough" "tapeLength" "I" ∈ wsX11_feed := by decide +kernel
set_option maxHeartbeats 4000000 in
set_option maxRecDepth 100000 in
theorem zs_X10_kindOf (l : Launch) (dC : Nat → ClassId) (dI : Nat → Nat → Nat) (p0 : Int32)  (sz : Nat) : Met l yX10_kindOf wsX10_kindOf ({ frames := 0, cells := 0, slots := 0, locals := 0 }) (va_Pc [.int p0] (fun U => U.heap.size = sz ∧ va_P (dC, dI) vwCl [] U.heap ∧ va_K (dC, dI) vwCl [] U ∧ va_D (fun _ => True) [])) (va_Qi (fun (r : Int32) (u : zV) => ((1 : Int) ≤ r.toInt ∧ r.toInt ≤ 5) ∧ True) (fun u t => va_P (dC, dI) vwCl [] t.heap ∧ va_K (dC, dI) vwCl [] t ∧ va_D (va_A [] sz) []) (va_A [] sz)) 0 0 (va_A [] sz) := by
  refine Met.ofW (cc := cX10_kindOf) (maxL := 1) (ret := (some .int)) (by decide +kernel) rfl ?_
  intro p e s m args below meth c s₁ B hml hv
  obtain ⟨rfl, hsz, hP, hK, hD0⟩ := hv
  have hx := B.exec
  have hb := B.bytes
  have hr := B.returns
  have hts := atoms_spec (ws := wsX10_kindOf) B.pre
  have hown : s.vm.findClass RX10 = some m.cls := findClass_of_methodNamed B.named
  have hlocks := B.notSynchronized
  subst hsz
  have hD := hD0.self (sz := s.heap.size)
  generalize hAe : va_A [] s.heap.size = A at hD ⊢
  have hA : ∀ q : Nat, s.heap.size ≤ q → A q := fun q h => by rw [← hAe]; exact Or.inr h
  have hS : va_S A s.heap s.heap [] := va_S.rf
  have hP : va_P (dC, dI) vwCl [] s.heap := hP
  have hl := lv_entry ([.int p0]) (n := 1) (Nat.le_of_ble_eq_true rfl)
  rw [lg_entry_eq]
  generalize (lg_sl ([.int p0]) ++ List.replicate (1 - (lg_sl ([.int p0])).length) Slot.unset).toArray = ls at hl ⊢
  have hl : lv_has ls 1 [(0, .int p0)] := hl
  generalize hQ : MQ below (va_Qi (fun (r : Int32) (u : zV) => ((1 : Int) ≤ r.toInt ∧ r.toInt ≤ 5) ∧ True) (fun u t => va_P (dC, dI) vwCl [] t.heap ∧ va_K (dC, dI) vwCl [] t ∧ va_D A []) A) ([.int p0] : List Value).toArray s 0 0 A = Q
  refine lv_iload_n hx hb dX10_kindOf_0 rfl (lv_at hl 0 rfl) ?_
  refine lv_bipush (v := 97) hx hb dX10_kindOf_1 (by decide +kernel) ?_
  have jp14_1 : ∀  (H : Heap) (locs : List Loc) (ls : Array Slot), va_P (dC, dI) vwCl [] H → va_D A [] → va_S A s.heap H locs → lv_has ls 1 [(0, .int p0)] → W p l e (headSpec wsX10_kindOf ({ frames := 0, cells := 0, slots := 0, locals := 0 })).room s m ([.int p0] : List Value).toArray below meth c H locs 0 0 Q (F0 m 14 ls []) := by
    intro H locs ls  hP hD hS hl
    refine lv_iload_n hx hb dX10_kindOf_14 rfl (lv_at hl 0 rfl) ?_
    refine lv_bipush (v := 48) hx hb dX10_kindOf_15 (by decide +kernel) ?_
    refine lv_icmp_lt (tgt := 28) hx hb dX10_kindOf_17 (by decide) (fun c_1 => ?_) (fun c_1 => ?_)
    · have oc_1 := zk_lt rfl (by decide +kernel : (48 : Int32).toInt = 48) c_1
      refine lv_iload_n hx hb dX10_kindOf_28 rfl (lv_at hl 0 rfl) ?_
      refine lv_bipush (v := 10) hx hb dX10_kindOf_29 (by decide +kernel) ?_
      refine lv_icmp_eq (tgt := 40) hx hb dX10_kindOf_31 (by decide) (fun c_2 => ?_) (fun c_2 => ?_)
      · have oc_2 := zk_eq rfl (by decide +kernel : (10 : Int32).toInt = 10) c_2
        refine lv_iconst (v := 5) hx hb dX10_kindOf_40 (by decide +kernel) ?_
        refine lv_goto (tgt := 45) hx hb dX10_kindOf_41 (by decide) ?_
        have hP9 := hP.sub (ws' := []) [] rfl
        have hD9 := hD.sub (ws' := []) [] (by decide) rfl
        have hK9 := hK.sub (tys' := []) [] rfl
        rw [← hQ]
        exact W.iret (v := 5) hx hb hr (fun t ht hW => ⟨⟨5, ((fun k => ([] : List Int32).getD k 0), (fun k => ([] : List (Nat → Int32)).getD k (fun _ => 0)), (fun k => ([] : List (Nat → Int64)).getD k (fun _ => 0))), rfl, ⟨(show (1 : Int) ≤ (5 : Int32).toInt ∧ (5 : Int32).toInt ≤ 5 by decide +kernel), trivial⟩, by rw [ht]; exact hP9, va_K.moved hW.alike hK9, hD9⟩, hS.F ht⟩) hS.2.2 dX10_kindOf_45
      have oc_2 := zk_ne rfl (by decide +kernel : (10 : Int32).toInt = 10) c_2
      refine lv_iload_n hx hb dX10_kindOf_34 rfl (lv_at hl 0 rfl) ?_
      refine lv_bipush (v := 32) hx hb dX10_kindOf_35 (by decide +kernel) ?_
      refine lv_icmp_ne (tgt := 44) hx hb dX10_kindOf_37 (by decide) (fun c_3 => ?_) (fun c_3 => ?_)
      · have oc_3 := zk_ne rfl (by decide +kernel : (32 : Int32).toInt = 32) c_3
        refine lv_iconst (v := 3) hx hb dX10_kindOf_44 (by decide +kernel) ?_
        have hP9 := hP.sub (ws' := []) [] rfl
        have hD9 := hD.sub (ws' := []) [] (by decide) rfl
        have hK9 := hK.sub (tys' := []) [] rfl
        rw [← hQ]
        exact W.iret (v := 3) hx hb hr (fun t ht hW => ⟨⟨3, ((fun k => ([] : List Int32).getD k 0), (fun k => ([] : List (Nat → Int32)).getD k (fun _ => 0)), (fun k => ([] : List (Nat → Int64)).getD k (fun _ => 0))), rfl, ⟨(show (1 : Int) ≤ (3 : Int32).toInt ∧ (3 : Int32).toInt ≤ 5 by decide +kernel), trivial⟩, by rw [ht]; exact hP9, va_K.moved hW.alike hK9, hD9⟩, hS.F ht⟩) hS.2.2 dX10_kindOf_45
      have oc_3 := zk_eq rfl (by decide +kernel : (32 : Int32).toInt = 32) c_3
      refine lv_iconst (v := 5) hx hb dX10_kindOf_40 (by decide +kernel) ?_
      refine lv_goto (tgt := 45) hx hb dX10_kindOf_41 (by decide) ?_
      have hP9 := hP.sub (ws' := []) [] rfl
      have hD9 := hD.sub (ws' := []) [] (by decide) rfl
      have hK9 := hK.sub (tys' := []) [] rfl
      rw [← hQ]
      exact W.iret (v := 5) hx hb hr (fun t ht hW => ⟨⟨5, ((fun k => ([] : List Int32).getD k 0), (fun k => ([] : List (Nat → Int32)).getD k (fun _ => 0)), (fun k => ([] : List (Nat → Int64)).getD k (fun _ => 0))), rfl, ⟨(show (1 : Int) ≤ (5 : Int32).toInt ∧ (5 : Int32).toInt ≤ 5 by decide +kernel), trivial⟩, by rw [ht]; exact hP9, va_K.moved hW.alike hK9, hD9⟩, hS.F ht⟩) hS.2.2 dX10_kindOf_45
    have oc_1 := zk_nlt rfl (by decide +kernel : (48 : Int32).toInt = 48) c_1
    refine lv_iload_n hx hb dX10_kindOf_20 rfl (lv_at hl 0 rfl) ?_
    refine lv_bipush (v := 57) hx hb dX10_kindOf_21 (by decide +kernel) ?_
    refine lv_icmp_gt (tgt := 28) hx hb dX10_kindOf_23 (by decide) (fun c_4 => ?_) (fun c_4 => ?_)
    · have oc_4 := zk_lt (by decide +kernel : (57 : Int32).toInt = 57) rfl c_4
      refine lv_iload_n hx hb dX10_kindOf_28 rfl (lv_at hl 0 rfl) ?_
      refine lv_bipush (v := 10) hx hb dX10_kindOf_29 (by decide +kernel) ?_
      refine lv_icmp_eq (tgt := 40) hx hb dX10_kindOf_31 (by decide) (fun c_5 => by exfalso; have oc_5 := zk_eq rfl (by decide +kernel : (10 : Int32).toInt = 10) c_5; omega) (fun c_5 => ?_)
      have oc_5 := zk_ne rfl (by decide +kernel : (10 : Int32).toInt = 10) c_5
      refine lv_iload_n hx hb dX10_kindOf_34 rfl (lv_at hl 0 rfl) ?_
      refine lv_bipush (v := 32) hx hb dX10_kindOf_35 (by decide +kernel) ?_
      refine lv_icmp_ne (tgt := 44) hx hb dX10_kindOf_37 (by decide) (fun c_6 => ?_) (fun c_6 => by exfalso; have oc_6 := zk_eq rfl (by decide +kernel : (32 : Int32).toInt = 32) c_6; omega)
      have oc_6 := zk_ne rfl (by decide +kernel : (32 : Int32).toInt = 32) c_6
      refine lv_iconst (v := 3) hx hb dX10_kindOf_44 (by decide +kernel) ?_
      have hP9 := hP.sub (ws' := []) [] rfl
      have hD9 := hD.sub (ws' := []) [] (by decide) rfl
      have hK9 := hK.sub (tys' := []) [] rfl
      rw [← hQ]
      exact W.iret (v := 3) hx hb hr (fun t ht hW => ⟨⟨3, ((fun k => ([] : List Int32).getD k 0), (fun k => ([] : List (Nat → Int32)).getD k (fun _ => 0)), (fun k => ([] : List (Nat → Int64)).getD k (fun _ => 0))), rfl, ⟨(show (1 : Int) ≤ (3 : Int32).toInt ∧ (3 : Int32).toInt ≤ 5 by decide +kernel), trivial⟩, by rw [ht]; exact hP9, va_K.moved hW.alike hK9, hD9⟩, hS.F ht⟩) hS.2.2 dX10_kindOf_45
    have oc_4 := zk_nlt (by decide +kernel : (57 : Int32).toInt = 57) rfl c_4
    refine lv_iconst (v := 2) hx hb dX10_kindOf_26 (by decide +kernel) ?_
    have hP9 := hP.sub (ws' := []) [] rfl
    have hD9 := hD.sub (ws' := []) [] (by decide) rfl
    have hK9 := hK.sub (tys' := []) [] rfl
    rw [← hQ]
    exact W.iret (v := 2) hx hb hr (fun t ht hW => ⟨⟨2, ((fun k => ([] : List Int32).getD k 0), (fun k => ([] : List (Nat → Int32)).getD k (fun _ => 0)), (fun k => ([] : List (Nat → Int64)).getD k (fun _ => 0))), rfl, ⟨(show (1 : Int) ≤ (2 : Int32).toInt ∧ (2 : Int32).toInt ≤ 5 by decide +kernel), trivial⟩, by rw [ht]; exact hP9, va_K.moved hW.alike hK9, hD9⟩, hS.F ht⟩) hS.2.2 dX10_kindOf_27
  refine lv_icmp_lt (tgt := 14) hx hb dX10_kindOf_3 (by decide) (fun c_7 => ?_) (fun c_7 => ?_)
  · have oc_7 := zk_lt rfl (by decide +kernel : (97 : Int32).toInt = 97) c_7
    exact jp14_1   s.heap [] ls  hP hD hS (lv_sub hl [0] rfl)
  have oc_7 := zk_nlt rfl (by decide +kernel : (97 : Int32).toInt = 97) c_7
  refine lv_iload_n hx hb dX10_kindOf_6 rfl (lv_at hl 0 rfl) ?_
  refine lv_bipush (v := 122) hx hb dX10_kindOf_7 (by decide +kernel) ?_
  refine lv_icmp_gt (tgt := 14) hx hb dX10_kindOf_9 (by decide) (fun c_8 => ?_) (fun c_8 => ?_)
  · have oc_8 := zk_lt (by decide +kernel : (122 : Int32).toInt = 122) rfl c_8
    exact jp14_1   s.heap [] ls  hP hD hS (lv_sub hl [0] rfl)
  have oc_8 := zk_nlt (by decide +kernel : (122 : Int32).toInt = 122) rfl c_8
  refine lv_iconst (v := 1) hx hb dX10_kindOf_12 (by decide +kernel) ?_
  have hP9 := hP.sub (ws' := []) [] rfl
  have hD9 := hD.sub (ws' := []) [] (by decide) rfl
  have hK9 := hK.sub (tys' := []) [] rfl
  rw [← hQ]
  exact W.iret (v := 1) hx hb hr (fun t ht hW => ⟨⟨1, ((fun k => ([] : List Int32).getD k 0), (fun k => ([] : List (Nat → Int32)).getD k (fun _ => 0)), (fun k => ([] : List (Nat → Int64)).getD k (fun _ => 0))), rfl, ⟨(show (1 : Int) ≤ (1 : Int32).toInt ∧ (1 : Int32).toInt ≤ 5 by decide +kernel), trivial⟩, by rw [ht]; exact hP9, va_K.moved hW.alike hK9, hD9⟩, hS.F ht⟩) hS.2.2 dX10_kindOf_13
set_option maxHeartbeats 4000000 in
set_option maxRecDepth 100000 in
theorem zs_X10_findOwn (l : Launch) (dC : Nat → ClassId) (dI : Nat → Nat → Nat) (h0 : Nat) (p1 : Int32) (r0_0 : Nat) (r0_1 : Nat) (v0_2 : Int32) (v0_3 : Int32) (v0_4 : Int32) (v0_5 : Int32) (v0_6 : Int32) (v0_7 : Int32) (k1 : Nat) (f1 : Nat → Int32) (hq_v0_2 : (0 : Int) ≤ v0_2.toInt ∧ v0_2.toInt ≤ 1200) (hq_v0_3 : (0 : Int) ≤ v0_3.toInt ∧ v0_3.toInt ≤ 1200) (hq_v0_4 : (0 : Int) ≤ v0_4.toInt ∧ v0_4.toInt ≤ 5) (hq_v0_5 : (0 : Int) ≤ v0_5.toInt ∧ v0_5.toInt ≤ 1200) (hq_v0_7 : (-1 : Int) ≤ v0_7.toInt ∧ v0_7.toInt ≤ 12) (sz : Nat) : Met l yX10_findOwn wsX10_findOwn ({ frames := 0, cells := 0, slots := 0, locals := 0 }) (va_Pc [.ref h0, .int p1] (fun U => U.heap.size = sz ∧ va_P (dC, dI) vwCl [(h0, .inr (10, [.ref r0_0, .ref r0_1, .int v0_2, .int v0_3, .int v0_4, .int v0_5, .int v0_6, .int v0_7])), (r0_0, .inl (k1, 13, .inl f1))] U.heap ∧ va_K (dC, dI) vwCl [(k1, .int)] U ∧ va_D (fun _ => True) [(h0, .inr (10, [.ref r0_0, .ref r0_1, .int v0_2, .int v0_3, .int v0_4, .int v0_5, .int v0_6, .int v0_7])), (r0_0, .inl (k1, 13, .inl f1))])) (va_Qi (fun (r : Int32) (u : zV) => ((-1 : Int) ≤ r.toInt ∧ r.toInt ≤ 12) ∧ True) (fun u t => va_P (dC, dI) vwCl [(h0, .inr (10, [.ref r0_0, .ref r0_1, .int v0_2, .int v0_3, .int v0_4, .int v0_5, .int v0_6, .int v0_7])), (r0_0, .inl (k1, 13, .inl f1))] t.heap ∧ va_K (dC, dI) vwCl [(k1, .int)] t ∧ va_D (va_A [(h0, .inr (10, [.ref r0_0, .ref r0_1, .int v0_2, .int v0_3, .int v0_4, .int v0_5, .int v0_6, .int v0_7])), (r0_0, .inl (k1, 13, .inl f1))] sz) [(h0, .inr (10, [.ref r0_0, .ref r0_1, .int v0_2, .int v0_3, .int v0_4, .int v0_5, .int v0_6, .int v0_7])), (r0_0, .inl (k1, 13, .inl f1))]) (va_A [(h0, .inr (10, [.ref r0_0, .ref r0_1, .int v0_2, .int v0_3, .int v0_4, .int v0_5, .int v0_6, .int v0_7])), (r0_0, .inl (k1, 13, .inl f1))] sz)) 0 0 (va_A [(h0, .inr (10, [.ref r0_0, .ref r0_1, .int v0_2, .int v0_3, .int v0_4, .int v0_5, .int v0_6, .int v0_7])), (r0_0, .inl (k1, 13, .inl f1))] sz) := by
  refine Met.ofW (cc := cX10_findOwn) (maxL := 3) (ret := (some .int)) (by decide +kernel) rfl ?_
  intro p e s m args below meth c s₁ B hml hv
  obtain ⟨rfl, hsz, hP, hK, hD0⟩ := hv
  have hx := B.exec
  have hb := B.bytes
  have hr := B.returns
  have hts := atoms_spec (ws := wsX10_findOwn) B.pre
  have hown : s.vm.findClass RX10 = some m.cls := findClass_of_methodNamed B.named
  have hlocks := B.notSynchronized
  subst hsz
  have hD := hD0.self (sz := s.heap.size)
  generalize hAe : va_A [(h0, .inr (10, [.ref r0_0, .ref r0_1, .int v0_2, .int v0_3, .int v0_4, .int v0_5, .int v0_6, .int v0_7])), (r0_0, .inl (k1, 13, .inl f1))] s.heap.size = A at hD ⊢
  have hA : ∀ q : Nat, s.heap.size ≤ q → A q := fun q h => by rw [← hAe]; exact Or.inr h
  have hS : va_S A s.heap s.heap [] := va_S.rf
  have hP : va_P (dC, dI) vwCl [(h0, .inr (10, [.ref r0_0, .ref r0_1, .int v0_2, .int v0_3, .int v0_4, .int v0_5, .int v0_6, .int v0_7])), (r0_0, .inl (k1, 13, .inl f1))] s.heap := hP
  have hl := lv_entry ([.ref h0, .int p1]) (n := 3) (Nat.le_of_ble_eq_true rfl)
  rw [lg_entry_eq]
  generalize (lg_sl ([.ref h0, .int p1]) ++ List.replicate (3 - (lg_sl ([.ref h0, .int p1])).length) Slot.unset).toArray = ls at hl ⊢
  have hl : lv_has ls 3 [(0, .ref h0), (1, .int p1)] := hl
  generalize hQ : MQ below (va_Qi (fun (r : Int32) (u : zV) => ((-1 : Int) ≤ r.toInt ∧ r.toInt ≤ 12) ∧ True) (fun u t => va_P (dC, dI) vwCl [(h0, .inr (10, [.ref r0_0, .ref r0_1, .int v0_2, .int v0_3, .int v0_4, .int v0_5, .int v0_6, .int v0_7])), (r0_0, .inl (k1, 13, .inl f1))] t.heap ∧ va_K (dC, dI) vwCl [(k1, .int)] t ∧ va_D A [(h0, .inr (10, [.ref r0_0, .ref r0_1, .int v0_2, .int v0_3, .int v0_4, .int v0_5, .int v0_6, .int v0_7])), (r0_0, .inl (k1, 13, .inl f1))]) A) ([.ref h0, .int p1] : List Value).toArray s 0 0 A = Q
  refine lv_iconst (v := 0) hx hb dX10_findOwn_0 (by decide +kernel) ?_
  refine lv_istore_n (lv' := [(2, .int 0), (0, .ref h0), (1, .int p1)]) hx hb dX10_findOwn_1 rfl hl (by decide) rfl (fun ls hl => ?_)
  have lp2 : ∀ (n : Nat) (y2_2 : Int32) (H : Heap) (locs : List Loc) (ls : Array Slot), (0 : Int) ≤ y2_2.toInt + (0) → (y2_2.toInt : Int) ≤ 0 + (13) → 14 - y2_2.toInt < n → va_P (dC, dI) vwCl [(h0, .inr (10, [.ref r0_0, .ref r0_1, .int v0_2, .int v0_3, .int v0_4, .int v0_5, .int v0_6, .int v0_7])), (r0_0, .inl (k1, 13, .inl f1))] H → va_D A [(h0, .inr (10, [.ref r0_0, .ref r0_1, .int v0_2, .int v0_3, .int v0_4, .int v0_5, .int v0_6, .int v0_7])), (r0_0, .inl (k1, 13, .inl f1))] → va_S A s.heap H locs → lv_has ls 3 [(2, .int y2_2), (0, .ref h0), (1, .int p1)] → W p l e (headSpec wsX10_findOwn ({ frames := 0, cells := 0, slots := 0, locals := 0 })).room s m ([.ref h0, .int p1] : List Value).toArray below meth c H locs 0 0 Q (F0 m 2 ls []) := by
    intro n
    induction n with
    | zero =>
      intro y2_2 H locs ls hz2_0 hz2_1  hmeas hP hD hS hl
      exfalso; omega
    | succ n ih2 =>
      intro y2_2 H locs ls hz2_0 hz2_1  hmeas hP hD hS hl
      refine lv_iload_n hx hb dX10_findOwn_2 rfl (lv_at hl 0 rfl) ?_
      refine lv_bipush (v := 13) hx hb dX10_findOwn_3 (by decide +kernel) ?_
      refine lv_icmp_ge (tgt := 26) hx hb dX10_findOwn_5 (by decide) (fun c_1 => ?_) (fun c_1 => ?_)
      · have oc_1 := zk_le (by decide +kernel : (13 : Int32).toInt = 13) rfl c_1
        refine lv_iconst (v := (-1)) hx hb dX10_findOwn_26 (by decide +kernel) ?_
        have hP9 := hP.sub (ws' := [(h0, .inr (10, [.ref r0_0, .ref r0_1, .int v0_2, .int v0_3, .int v0_4, .int v0_5, .int v0_6, .int v0_7])), (r0_0, .inl (k1, 13, .inl f1))]) [0, 1] rfl
        have hD9 := hD.sub (ws' := [(h0, .inr (10, [.ref r0_0, .ref r0_1, .int v0_2, .int v0_3, .int v0_4, .int v0_5, .int v0_6, .int v0_7])), (r0_0, .inl (k1, 13, .inl f1))]) [0, 1] (by decide) rfl
        have hK9 := hK.sub (tys' := [(k1, .int)]) [0] rfl
        rw [← hQ]
        exact W.iret (v := (-1)) hx hb hr (fun t ht hW => ⟨⟨(-1), ((fun k => ([] : List Int32).getD k 0), (fun k => ([] : List (Nat → Int32)).getD k (fun _ => 0)), (fun k => ([] : List (Nat → Int64)).getD k (fun _ => 0))), rfl, ⟨(show (-1 : Int) ≤ ((-1) : Int32).toInt ∧ ((-1) : Int32).toInt ≤ 12 by decide +kernel), trivial⟩, by rw [ht]; exact hP9, va_K.moved hW.alike hK9, hD9⟩, hS.F ht⟩) hS.2.2 dX10_findOwn_27
      have oc_1 := zk_nle (by decide +kernel : (13 : Int32).toInt = 13) rfl c_1
      refine lv_aload_n hx hb dX10_findOwn_8 rfl (lv_at hl 1 rfl) ?_
      refine va_get (D := (dC, dI)) (ci := 10) (v := .ref r0_0) (C := RX10) (T := TX10) (N := 8) hx hb hts zn_X10_findOwn_X10 hown hK hP 0 rfl rfl 0 (by decide) (hts (.fieldLink RX10 11 "ShortEnough$Words" "ownNames" "[I") zw_X10_findOwn_249) (fun _ h9 => h9) rfl dX10_findOwn_9 ?_
      refine lv_iload_n hx hb dX10_findOwn_12 rfl (lv_at hl 0 rfl) ?_
      refine va_iald hx hb hK hP 1 0 rfl rfl (vp_in_iff.mpr ⟨by omega, by omega⟩) dX10_findOwn_13 ?_
      refine lv_topi (fun x_2 ex_2 => ?_)
      refine lv_iload_n hx hb dX10_findOwn_14 rfl (lv_at hl 2 rfl) ?_
      refine lv_icmp_ne (tgt := 20) hx hb dX10_findOwn_15 (by decide) (fun c_3 => ?_) (fun c_3 => ?_)
      · have oc_3 := zk_ne rfl rfl c_3
        obtain ⟨x_4, ex_4⟩ : ∃ y : Int32, y = y2_2 + 1 := ⟨_, rfl⟩
        refine lv_iinc (v := x_4) (lv' := [(2, .int x_4), (0, .ref h0), (1, .int p1)]) hx hb dX10_findOwn_20 hl (k := 0) rfl (by rw [ex_4]; rfl) (by decide) rfl (fun ls hl => ?_)
        have hx_4 := zo_add ex_4 rfl (by decide +kernel : (1 : Int32).toInt = 1) (by omega)
        refine lv_goto (tgt := 2) hx hb dX10_findOwn_23 (by decide) ?_
        exact ih2  x_4 H locs ls (by omega) (by omega)  (by omega) hP hD hS (lv_sub hl [0, 1, 2] rfl)
      have oc_3 := zk_eq rfl rfl c_3
      refine lv_iload_n hx hb dX10_findOwn_18 rfl (lv_at hl 0 rfl) ?_
      have hP9 := hP.sub (ws' := [(h0, .inr (10, [.ref r0_0, .ref r0_1, .int v0_2, .int v0_3, .int v0_4, .int v0_5, .int v0_6, .int v0_7])), (r0_0, .inl (k1, 13, .inl f1))]) [0, 1] rfl
      have hD9 := hD.sub (ws' := [(h0, .inr (10, [.ref r0_0, .ref r0_1, .int v0_2, .int v0_3, .int v0_4, .int v0_5, .int v0_6, .int v0_7])), (r0_0, .inl (k1, 13, .inl f1))]) [0, 1] (by decide) rfl
      have hK9 := hK.sub (tys' := [(k1, .int)]) [0] rfl
      rw [← hQ]
      exact W.iret (v := y2_2) hx hb hr (fun t ht hW => ⟨⟨y2_2, ((fun k => ([] : List Int32).getD k 0), (fun k => ([] : List (Nat → Int32)).getD k (fun _ => 0)), (fun k => ([] : List (Nat → Int64)).getD k (fun _ => 0))), rfl, ⟨(show (-1 : Int) ≤ (y2_2 : Int32).toInt ∧ (y2_2 : Int32).toInt ≤ 12 by omega), trivial⟩, by rw [ht]; exact hP9, va_K.moved hW.alike hK9, hD9⟩, hS.F ht⟩) hS.2.2 dX10_findOwn_19
  have kk0 : (0 : Int32).toInt = 0 := (by decide +kernel)
  exact lp2 ((14 - (0 : Int32).toInt).toNat + 1) 0 s.heap [] ls (by omega) (by omega)  (by omega) hP hD hS (lv_sub hl [0, 1, 2] rfl)
set_option maxHeartbeats 4000000 in
set_option maxRecDepth 100000 in
theorem zs_X10_addByte (l : Launch) (dC : Nat → ClassId) (dI : Nat → Nat → Nat) (h0 : Nat) (p1 : Int32) (p2 : Int32) (r0_0 : Nat) (r0_1 : Nat) (v0_2 : Int32) (v0_3 : Int32) (v0_4 : Int32) (v0_5 : Int32) (v0_6 : Int32) (v0_7 : Int32) (hq_v0_2 : (0 : Int) ≤ v0_2.toInt ∧ v0_2.toInt ≤ 1200) (hq_v0_3 : (0 : Int) ≤ v0_3.toInt ∧ v0_3.toInt ≤ 1200) (hq_v0_4 : (0 : Int) ≤ v0_4.toInt ∧ v0_4.toInt ≤ 5) (hq_v0_5 : (0 : Int) ≤ v0_5.toInt ∧ v0_5.toInt ≤ 1200) (hq_v0_7 : (-1 : Int) ≤ v0_7.toInt ∧ v0_7.toInt ≤ 12) (sz : Nat) : Met l yX10_addByte wsX10_addByte ({ frames := 0, cells := 0, slots := 0, locals := 0 }) (va_Pc [.ref h0, .int p1, .int p2] (fun U => U.heap.size = sz ∧ va_P (dC, dI) vwCl [(h0, .inr (10, [.ref r0_0, .ref r0_1, .int v0_2, .int v0_3, .int v0_4, .int v0_5, .int v0_6, .int v0_7]))] U.heap ∧ va_K (dC, dI) vwCl [] U ∧ va_D (fun _ => True) [(h0, .inr (10, [.ref r0_0, .ref r0_1, .int v0_2, .int v0_3, .int v0_4, .int v0_5, .int v0_6, .int v0_7]))])) (va_Qv (fun (u : zV) => True) (fun u t => va_P (dC, dI) vwCl [(h0, .inr (10, [.ref r0_0, .ref r0_1, .int v0_2, .int v0_3, .int v0_4, .int v0_5, .int (u.1 0), .int v0_7]))] t.heap ∧ va_K (dC, dI) vwCl [] t ∧ va_D (va_A [(h0, .inr (10, [.ref r0_0, .ref r0_1, .int v0_2, .int v0_3, .int v0_4, .int v0_5, .int v0_6, .int v0_7]))] sz) [(h0, .inr (10, [.ref r0_0, .ref r0_1, .int v0_2, .int v0_3, .int v0_4, .int v0_5, .int (u.1 0), .int v0_7]))]) (va_A [(h0, .inr (10, [.ref r0_0, .ref r0_1, .int v0_2, .int v0_3, .int v0_4, .int v0_5, .int v0_6, .int v0_7]))] sz)) 0 0 (va_A [(h0, .inr (10, [.ref r0_0, .ref r0_1, .int v0_2, .int v0_3, .int v0_4, .int v0_5, .int v0_6, .int v0_7]))] sz) := by
  refine Met.ofW (cc := cX10_addByte) (maxL := 3) (ret := none) (by decide +kernel) rfl ?_
  intro p e s m args below meth c s₁ B hml hv
  obtain ⟨rfl, hsz, hP, hK, hD0⟩ := hv
  have hx := B.exec
  have hb := B.bytes
  have hr := B.returns
  have hts := atoms_spec (ws := wsX10_addByte) B.pre
  have hown : s.vm.findClass RX10 = some m.cls := findClass_of_methodNamed B.named
  have hlocks := B.notSynchronized
  subst hsz
  have hD := hD0.self (sz := s.heap.size)
  generalize hAe : va_A [(h0, .inr (10, [.ref r0_0, .ref r0_1, .int v0_2, .int v0_3, .int v0_4, .int v0_5, .int v0_6, .int v0_7]))] s.heap.size = A at hD ⊢
  have hA : ∀ q : Nat, s.heap.size ≤ q → A q := fun q h => by rw [← hAe]; exact Or.inr h
  have hS : va_S A s.heap s.heap [] := va_S.rf
  have hP : va_P (dC, dI) vwCl [(h0, .inr (10, [.ref r0_0, .ref r0_1, .int v0_2, .int v0_3, .int v0_4, .int v0_5, .int v0_6, .int v0_7]))] s.heap := hP
  have hl := lv_entry ([.ref h0, .int p1, .int p2]) (n := 3) (Nat.le_of_ble_eq_true rfl)
  rw [lg_entry_eq]
  generalize (lg_sl ([.ref h0, .int p1, .int p2]) ++ List.replicate (3 - (lg_sl ([.ref h0, .int p1, .int p2])).length) Slot.unset).toArray = ls at hl ⊢
  have hl : lv_has ls 3 [(0, .ref h0), (1, .int p1), (2, .int p2)] := hl
  generalize hQ : MQ below (va_Qv (fun (u : zV) => True) (fun u t => va_P (dC, dI) vwCl [(h0, .inr (10, [.ref r0_0, .ref r0_1, .int v0_2, .int v0_3, .int v0_4, .int v0_5, .int (u.1 0), .int v0_7]))] t.heap ∧ va_K (dC, dI) vwCl [] t ∧ va_D A [(h0, .inr (10, [.ref r0_0, .ref r0_1, .int v0_2, .int v0_3, .int v0_4, .int v0_5, .int (u.1 0), .int v0_7]))]) A) ([.ref h0, .int p1, .int p2] : List Value).toArray s 0 0 A = Q
  refine lv_aload_n hx hb dX10_addByte_0 rfl (lv_at hl 0 rfl) ?_
  refine va_get (D := (dC, dI)) (ci := 10) (v := .int v0_4) (C := RX10) (T := TX10) (N := 8) hx hb hts zn_X10_addByte_X10 hown hK hP 0 rfl rfl 4 (by decide) (hts (.fieldLink RX10 46 "ShortEnough$Words" "kind" "I") zw_X10_addByte_251) (fun _ h9 => h9) rfl dX10_addByte_1 ?_
  refine lv_iconst (v := 3) hx hb dX10_addByte_4 (by decide +kernel) ?_
  refine lv_icmp_ne (tgt := 16) hx hb dX10_addByte_5 (by decide) (fun c_1 => ?_) (fun c_1 => ?_)
  · have oc_1 := zk_ne rfl (by decide +kernel : (3 : Int32).toInt = 3) c_1
    refine lv_aload_n hx hb dX10_addByte_16 rfl (lv_at hl 0 rfl) ?_
    refine va_get (D := (dC, dI)) (ci := 10) (v := .int v0_4) (C := RX10) (T := TX10) (N := 8) hx hb hts zn_X10_addByte_X10 hown hK hP 0 rfl rfl 4 (by decide) (hts (.fieldLink RX10 46 "ShortEnough$Words" "kind" "I") zw_X10_addByte_251) (fun _ h9 => h9) rfl dX10_addByte_17 ?_
    refine lv_iconst (v := 1) hx hb dX10_addByte_20 (by decide +kernel) ?_
    have jp55_1 : ∀  (H : Heap) (locs : List Loc) (ls : Array Slot), va_P (dC, dI) vwCl [(h0, .inr (10, [.ref r0_0, .ref r0_1, .int v0_2, .int v0_3, .int v0_4, .int v0_5, .int v0_6, .int v0_7]))] H → va_D A [(h0, .inr (10, [.ref r0_0, .ref r0_1, .int v0_2, .int v0_3, .int v0_4, .int v0_5, .int v0_6, .int v0_7]))] → va_S A s.heap H locs → lv_has ls 3 [(0, .ref h0), (1, .int p1), (2, .int p2)] → W p l e (headSpec wsX10_addByte ({ frames := 0, cells := 0, slots := 0, locals := 0 })).room s m ([.ref h0, .int p1, .int p2] : List Value).toArray below meth c H locs 0 0 Q (F0 m 55 ls []) := by
      intro H locs ls  hP hD hS hl
      refine lv_aload_n hx hb dX10_addByte_55 rfl (lv_at hl 0 rfl) ?_
      refine va_get (D := (dC, dI)) (ci := 10) (v := .int v0_4) (C := RX10) (T := TX10) (N := 8) hx hb hts zn_X10_addByte_X10 hown hK hP 0 rfl rfl 4 (by decide) (hts (.fieldLink RX10 46 "ShortEnough$Words" "kind" "I") zw_X10_addByte_251) (fun _ h9 => h9) rfl dX10_addByte_56 ?_
      refine lv_iconst (v := 2) hx hb dX10_addByte_59 (by decide +kernel) ?_
      refine lv_icmp_ne (tgt := 85) hx hb dX10_addByte_60 (by decide) (fun c_2 => ?_) (fun c_2 => ?_)
      · have oc_2 := zk_ne rfl (by decide +kernel : (2 : Int32).toInt = 2) c_2
        have hP9 := hP.sub (ws' := [(h0, .inr (10, [.ref r0_0, .ref r0_1, .int v0_2, .int v0_3, .int v0_4, .int v0_5, .int v0_6, .int v0_7]))]) [0] rfl
        have hD9 := hD.sub (ws' := [(h0, .inr (10, [.ref r0_0, .ref r0_1, .int v0_2, .int v0_3, .int v0_4, .int v0_5, .int v0_6, .int v0_7]))]) [0] (by decide) rfl
        have hK9 := hK.sub (tys' := []) [] rfl
        rw [← hQ]
        exact W.vret hx hb hr (fun t ht hW => ⟨⟨((fun k => ([v0_6] : List Int32).getD k 0), (fun k => ([] : List (Nat → Int32)).getD k (fun _ => 0)), (fun k => ([] : List (Nat → Int64)).getD k (fun _ => 0))), rfl, trivial, by rw [ht]; exact hP9, va_K.moved hW.alike hK9, hD9⟩, hS.F ht⟩) hS.2.2 dX10_addByte_85
      have oc_2 := zk_eq rfl (by decide +kernel : (2 : Int32).toInt = 2) c_2
      refine lv_iload_n hx hb dX10_addByte_63 rfl (lv_at hl 2 rfl) ?_
      refine lv_bipush (v := 8) hx hb dX10_addByte_64 (by decide +kernel) ?_
      refine lv_icmp_gt (tgt := 85) hx hb dX10_addByte_66 (by decide) (fun c_3 => ?_) (fun c_3 => ?_)
      · have oc_3 := zk_lt (by decide +kernel : (8 : Int32).toInt = 8) rfl c_3
        have hP9 := hP.sub (ws' := [(h0, .inr (10, [.ref r0_0, .ref r0_1, .int v0_2, .int v0_3, .int v0_4, .int v0_5, .int v0_6, .int v0_7]))]) [0] rfl
        have hD9 := hD.sub (ws' := [(h0, .inr (10, [.ref r0_0, .ref r0_1, .int v0_2, .int v0_3, .int v0_4, .int v0_5, .int v0_6, .int v0_7]))]) [0] (by decide) rfl
        have hK9 := hK.sub (tys' := []) [] rfl
        rw [← hQ]
        exact W.vret hx hb hr (fun t ht hW => ⟨⟨((fun k => ([v0_6] : List Int32).getD k 0), (fun k => ([] : List (Nat → Int32)).getD k (fun _ => 0)), (fun k => ([] : List (Nat → Int64)).getD k (fun _ => 0))), rfl, trivial, by rw [ht]; exact hP9, va_K.moved hW.alike hK9, hD9⟩, hS.F ht⟩) hS.2.2 dX10_addByte_85
      have oc_3 := zk_nlt (by decide +kernel : (8 : Int32).toInt = 8) rfl c_3
      refine lv_aload_n hx hb dX10_addByte_69 rfl (lv_at hl 0 rfl) ?_
      refine lv_aload_n hx hb dX10_addByte_70 rfl (lv_at hl 0 rfl) ?_
      refine va_get (D := (dC, dI)) (ci := 10) (v := .int v0_6) (C := RX10) (T := TX10) (N := 8) hx hb hts zn_X10_addByte_X10 hown hK hP 0 rfl rfl 6 (by decide) (hts (.fieldLink RX10 59 "ShortEnough$Words" "value" "I") zw_X10_addByte_252) (fun _ h9 => h9) rfl dX10_addByte_71 ?_
      refine lv_bipush (v := 10) hx hb dX10_addByte_74 (by decide +kernel) ?_
      refine lv_imul hx hb dX10_addByte_76 ?_
      refine lv_topi (fun x_4 ex_4 => ?_)
      refine lv_iload_n hx hb dX10_addByte_77 rfl (lv_at hl 1 rfl) ?_
      refine lv_iadd hx hb dX10_addByte_78 ?_
      refine lv_topi (fun x_5 ex_5 => ?_)
      refine lv_bipush (v := 48) hx hb dX10_addByte_79 (by decide +kernel) ?_
      refine lv_isub hx hb dX10_addByte_81 ?_
      refine lv_topi (fun x_6 ex_6 => ?_)
      refine va_put (D := (dC, dI)) (ci := 10) (v := .int x_6) (ty := .int) (C := RX10) (T := TX10) (N := 8) hx hb hts zn_X10_addByte_X10 tyX10 tyX10_ok nmX10 hown hK hP hD hS 0 rfl rfl 6 (by decide) (hts (.fieldLink RX10 59 "ShortEnough$Words" "value" "I") zw_X10_addByte_252) (fun _ h9 => h9) rfl (by decide +kernel) rfl rfl (Nat.le_of_ble_eq_true rfl) dX10_addByte_82 (fun H locs hP hD hS => ?_)
      have hP : va_P (dC, dI) vwCl [(h0, .inr (10, [.ref r0_0, .ref r0_1, .int v0_2, .int v0_3, .int v0_4, .int v0_5, .int x_6, .int v0_7]))] H := hP
      have hD : va_D A [(h0, .inr (10, [.ref r0_0, .ref r0_1, .int v0_2, .int v0_3, .int v0_4, .int v0_5, .int x_6, .int v0_7]))] := hD
      have hP9 := hP.sub (ws' := [(h0, .inr (10, [.ref r0_0, .ref r0_1, .int v0_2, .int v0_3, .int v0_4, .int v0_5, .int x_6, .int v0_7]))]) [0] rfl
      have hD9 := hD.sub (ws' := [(h0, .inr (10, [.ref r0_0, .ref r0_1, .int v0_2, .int v0_3, .int v0_4, .int v0_5, .int x_6, .int v0_7]))]) [0] (by decide) rfl
      have hK9 := hK.sub (tys' := []) [] rfl
      rw [← hQ]
      exact W.vret hx hb hr (fun t ht hW => ⟨⟨((fun k => ([x_6] : List Int32).getD k 0), (fun k => ([] : List (Nat → Int32)).getD k (fun _ => 0)), (fun k => ([] : List (Nat → Int64)).getD k (fun _ => 0))), rfl, trivial, by rw [ht]; exact hP9, va_K.moved hW.alike hK9, hD9⟩, hS.F ht⟩) hS.2.2 dX10_addByte_85
    refine lv_icmp_ne (tgt := 55) hx hb dX10_addByte_21 (by decide) (fun c_7 => ?_) (fun c_7 => ?_)
    · have oc_7 := zk_ne rfl (by decide +kernel : (1 : Int32).toInt = 1) c_7
      exact jp55_1   s.heap [] ls  hP hD hS (lv_sub hl [0, 1, 2] rfl)
    have oc_7 := zk_eq rfl (by decide +kernel : (1 : Int32).toInt = 1) c_7
    refine lv_iload_n hx hb dX10_addByte_24 rfl (lv_at hl 2 rfl) ?_
    refine lv_bipush (v := 6) hx hb dX10_addByte_25 (by decide +kernel) ?_
    refine lv_icmp_gt (tgt := 55) hx hb dX10_addByte_27 (by decide) (fun c_8 => ?_) (fun c_8 => ?_)
    · have oc_8 := zk_lt (by decide +kernel : (6 : Int32).toInt = 6) rfl c_8
      exact jp55_1   s.heap [] ls  hP hD hS (lv_sub hl [0, 1, 2] rfl)
    have oc_8 := zk_nlt (by decide +kernel : (6 : Int32).toInt = 6) rfl c_8
    refine lv_aload_n hx hb dX10_addByte_30 rfl (lv_at hl 0 rfl) ?_
    refine lv_dup hx hb dX10_addByte_31 rfl ?_
    refine va_get (D := (dC, dI)) (ci := 10) (v := .int v0_6) (C := RX10) (T := TX10) (N := 8) hx hb hts zn_X10_addByte_X10 hown hK hP 0 rfl rfl 6 (by decide) (hts (.fieldLink RX10 59 "ShortEnough$Words" "value" "I") zw_X10_addByte_252) (fun _ h9 => h9) rfl dX10_addByte_32 ?_
    refine lv_iload_n hx hb dX10_addByte_35 rfl (lv_at hl 1 rfl) ?_
    refine lv_bipush (v := 97) hx hb dX10_addByte_36 (by decide +kernel) ?_
    refine lv_isub hx hb dX10_addByte_38 ?_
    refine lv_topi (fun x_9 ex_9 => ?_)
    refine lv_iconst (v := 1) hx hb dX10_addByte_39 (by decide +kernel) ?_
    refine lv_iadd hx hb dX10_addByte_40 ?_
    refine lv_topi (fun x_10 ex_10 => ?_)
    refine lv_iconst (v := 5) hx hb dX10_addByte_41 (by decide +kernel) ?_
    refine lv_bipush (v := 6) hx hb dX10_addByte_42 (by decide +kernel) ?_
    refine lv_iload_n hx hb dX10_addByte_44 rfl (lv_at hl 2 rfl) ?_
    refine lv_isub hx hb dX10_addByte_45 ?_
    refine lv_topi (fun x_11 ex_11 => ?_)
    refine lv_imul hx hb dX10_addByte_46 ?_
    refine lv_topi (fun x_12 ex_12 => ?_)
    refine lv_ishl hx hb dX10_addByte_47 ?_
    refine lv_topi (fun x_13 ex_13 => ?_)
    refine lv_ior hx hb dX10_addByte_48 ?_
    refine lv_topi (fun x_14 ex_14 => ?_)
    refine va_put (D := (dC, dI)) (ci := 10) (v := .int x_14) (ty := .int) (C := RX10) (T := TX10) (N := 8) hx hb hts zn_X10_addByte_X10 tyX10 tyX10_ok nmX10 hown hK hP hD hS 0 rfl rfl 6 (by decide) (hts (.fieldLink RX10 59 "ShortEnough$Words" "value" "I") zw_X10_addByte_252) (fun _ h9 => h9) rfl (by decide +kernel) rfl rfl (Nat.le_of_ble_eq_true rfl) dX10_addByte_49 (fun H locs hP hD hS => ?_)
    have hP : va_P (dC, dI) vwCl [(h0, .inr (10, [.ref r0_0, .ref r0_1, .int v0_2, .int v0_3, .int v0_4, .int v0_5, .int x_14, .int v0_7]))] H := hP
    have hD : va_D A [(h0, .inr (10, [.ref r0_0, .ref r0_1, .int v0_2, .int v0_3, .int v0_4, .int v0_5, .int x_14, .int v0_7]))] := hD
    refine lv_goto (tgt := 85) hx hb dX10_addByte_52 (by decide) ?_
    have hP9 := hP.sub (ws' := [(h0, .inr (10, [.ref r0_0, .ref r0_1, .int v0_2, .int v0_3, .int v0_4, .int v0_5, .int x_14, .int v0_7]))]) [0] rfl
    have hD9 := hD.sub (ws' := [(h0, .inr (10, [.ref r0_0, .ref r0_1, .int v0_2, .int v0_3, .int v0_4, .int v0_5, .int x_14, .int v0_7]))]) [0] (by decide) rfl
    have hK9 := hK.sub (tys' := []) [] rfl
    rw [← hQ]
    exact W.vret hx hb hr (fun t ht hW => ⟨⟨((fun k => ([x_14] : List Int32).getD k 0), (fun k => ([] : List (Nat → Int32)).getD k (fun _ => 0)), (fun k => ([] : List (Nat → Int64)).getD k (fun _ => 0))), rfl, trivial, by rw [ht]; exact hP9, va_K.moved hW.alike hK9, hD9⟩, hS.F ht⟩) hS.2.2 dX10_addByte_85
  have oc_1 := zk_eq rfl (by decide +kernel : (3 : Int32).toInt = 3) c_1
  refine lv_aload_n hx hb dX10_addByte_8 rfl (lv_at hl 0 rfl) ?_
  refine lv_iload_n hx hb dX10_addByte_9 rfl (lv_at hl 1 rfl) ?_
  refine va_put (D := (dC, dI)) (ci := 10) (v := .int p1) (ty := .int) (C := RX10) (T := TX10) (N := 8) hx hb hts zn_X10_addByte_X10 tyX10 tyX10_ok nmX10 hown hK hP hD hS 0 rfl rfl 6 (by decide) (hts (.fieldLink RX10 59 "ShortEnough$Words" "value" "I") zw_X10_addByte_252) (fun _ h9 => h9) rfl (by decide +kernel) rfl rfl (Nat.le_of_ble_eq_true rfl) dX10_addByte_10 (fun H locs hP hD hS => ?_)
  have hP : va_P (dC, dI) vwCl [(h0, .inr (10, [.ref r0_0, .ref r0_1, .int v0_2, .int v0_3, .int v0_4, .int v0_5, .int p1, .int v0_7]))] H := hP
  have hD : va_D A [(h0, .inr (10, [.ref r0_0, .ref r0_1, .int v0_2, .int v0_3, .int v0_4, .int v0_5, .int p1, .int v0_7]))] := hD
  refine lv_goto (tgt := 85) hx hb dX10_addByte_13 (by decide) ?_
  have hP9 := hP.sub (ws' := [(h0, .inr (10, [.ref r0_0, .ref r0_1, .int v0_2, .int v0_3, .int v0_4, .int v0_5, .int p1, .int v0_7]))]) [0] rfl
  have hD9 := hD.sub (ws' := [(h0, .inr (10, [.ref r0_0, .ref r0_1, .int v0_2, .int v0_3, .int v0_4, .int v0_5, .int p1, .int v0_7]))]) [0] (by decide) rfl
  have hK9 := hK.sub (tys' := []) [] rfl
  rw [← hQ]
  exact W.vret hx hb hr (fun t ht hW => ⟨⟨((fun k => ([p1] : List Int32).getD k 0), (fun k => ([] : List (Nat → Int32)).getD k (fun _ => 0)), (fun k => ([] : List (Nat → Int64)).getD k (fun _ => 0))), rfl, trivial, by rw [ht]; exact hP9, va_K.moved hW.alike hK9, hD9⟩, hS.F ht⟩) hS.2.2 dX10_addByte_85
set_option maxHeartbeats 4000000 in
set_option maxRecDepth 100000 in
theorem zs_X10_isSign (l : Launch) (dC : Nat → ClassId) (dI : Nat → Nat → Nat) (h0 : Nat) (p1 : Int32) (r0_0 : Nat) (r0_1 : Nat) (v0_2 : Int32) (v0_3 : Int32) (v0_4 : Int32) (v0_5 : Int32) (v0_6 : Int32) (v0_7 : Int32) (hq_v0_2 : (0 : Int) ≤ v0_2.toInt ∧ v0_2.toInt ≤ 1200) (hq_v0_3 : (0 : Int) ≤ v0_3.toInt ∧ v0_3.toInt ≤ 1200) (hq_v0_4 : (0 : Int) ≤ v0_4.toInt ∧ v0_4.toInt ≤ 5) (hq_v0_5 : (0 : Int) ≤ v0_5.toInt ∧ v0_5.toInt ≤ 1200) (hq_v0_7 : (-1 : Int) ≤ v0_7.toInt ∧ v0_7.toInt ≤ 12) (sz : Nat) : Met l yX10_isSign wsX10_isSign ({ frames := 0, cells := 0, slots := 0, locals := 0 }) (va_Pc [.ref h0, .int p1] (fun U => U.heap.size = sz ∧ va_P (dC, dI) vwCl [(h0, .inr (10, [.ref r0_0, .ref r0_1, .int v0_2, .int v0_3, .int v0_4, .int v0_5, .int v0_6, .int v0_7]))] U.heap ∧ va_K (dC, dI) vwCl [] U ∧ va_D (fun _ => True) [(h0, .inr (10, [.ref r0_0, .ref r0_1, .int v0_2, .int v0_3, .int v0_4, .int v0_5, .int v0_6, .int v0_7]))])) (va_Qi (fun (r : Int32) (u : zV) => ((0 : Int) ≤ r.toInt ∧ r.toInt ≤ 1) ∧ (r.toInt = 0 ∨ ((0 : Int) ≤ v0_4.toInt + (-3) ∧ (p1.toInt : Int) ≤ v0_6.toInt + (0) ∧ (v0_4.toInt : Int) ≤ 0 + (3) ∧ (v0_6.toInt : Int) ≤ p1.toInt + (0))) ∧ True) (fun u t => va_P (dC, dI) vwCl [(h0, .inr (10, [.ref r0_0, .ref r0_1, .int v0_2, .int v0_3, .int v0_4, .int v0_5, .int v0_6, .int v0_7]))] t.heap ∧ va_K (dC, dI) vwCl [] t ∧ va_D (va_A [(h0, .inr (10, [.ref r0_0, .ref r0_1, .int v0_2, .int v0_3, .int v0_4, .int v0_5, .int v0_6, .int v0_7]))] sz) [(h0, .inr (10, [.ref r0_0, .ref r0_1, .int v0_2, .int v0_3, .int v0_4, .int v0_5, .int v0_6, .int v0_7]))]) (va_A [(h0, .inr (10, [.ref r0_0, .ref r0_1, .int v0_2, .int v0_3, .int v0_4, .int v0_5, .int v0_6, .int v0_7]))] sz)) 0 0 (va_A [(h0, .inr (10, [.ref r0_0, .ref r0_1, .int v0_2, .int v0_3, .int v0_4, .int v0_5, .int v0_6, .int v0_7]))] sz) := by
  refine Met.ofW (cc := cX10_isSign) (maxL := 2) (ret := (some .boolean)) (by decide +kernel) rfl ?_
  intro p e s m args below meth c s₁ B hml hv
  obtain ⟨rfl, hsz, hP, hK, hD0⟩ := hv
  have hx := B.exec
  have hb := B.bytes
  have hr := B.returns
  have hts := atoms_spec (ws := wsX10_isSign) B.pre
  have hown : s.vm.findClass RX10 = some m.cls := findClass_of_methodNamed B.named
  have hlocks := B.notSynchronized
  subst hsz
  have hD := hD0.self (sz := s.heap.size)
  generalize hAe : va_A [(h0, .inr (10, [.ref r0_0, .ref r0_1, .int v0_2, .int v0_3, .int v0_4, .int v0_5, .int v0_6, .int v0_7]))] s.heap.size = A at hD ⊢
  have hA : ∀ q : Nat, s.heap.size ≤ q → A q := fun q h => by rw [← hAe]; exact Or.inr h
  have hS : va_S A s.heap s.heap [] := va_S.rf
  have hP : va_P (dC, dI) vwCl [(h0, .inr (10, [.ref r0_0, .ref r0_1, .int v0_2, .int v0_3, .int v0_4, .int v0_5, .int v0_6, .int v0_7]))] s.heap := hP
  have hl := lv_entry ([.ref h0, .int p1]) (n := 2) (Nat.le_of_ble_eq_true rfl)
  rw [lg_entry_eq]
  generalize (lg_sl ([.ref h0, .int p1]) ++ List.replicate (2 - (lg_sl ([.ref h0, .int p1])).length) Slot.unset).toArray = ls at hl ⊢
  have hl : lv_has ls 2 [(0, .ref h0), (1, .int p1)] := hl
  generalize hQ : MQ below (va_Qi (fun (r : Int32) (u : zV) => ((0 : Int) ≤ r.toInt ∧ r.toInt ≤ 1) ∧ (r.toInt = 0 ∨ ((0 : Int) ≤ v0_4.toInt + (-3) ∧ (p1.toInt : Int) ≤ v0_6.toInt + (0) ∧ (v0_4.toInt : Int) ≤ 0 + (3) ∧ (v0_6.toInt : Int) ≤ p1.toInt + (0))) ∧ True) (fun u t => va_P (dC, dI) vwCl [(h0, .inr (10, [.ref r0_0, .ref r0_1, .int v0_2, .int v0_3, .int v0_4, .int v0_5, .int v0_6, .int v0_7]))] t.heap ∧ va_K (dC, dI) vwCl [] t ∧ va_D A [(h0, .inr (10, [.ref r0_0, .ref r0_1, .int v0_2, .int v0_3, .int v0_4, .int v0_5, .int v0_6, .int v0_7]))]) A) ([.ref h0, .int p1] : List Value).toArray s 0 0 A = Q
  refine lv_aload_n hx hb dX10_isSign_0 rfl (lv_at hl 0 rfl) ?_
  refine va_get (D := (dC, dI)) (ci := 10) (v := .int v0_4) (C := RX10) (T := TX10) (N := 8) hx hb hts zn_X10_isSign_X10 hown hK hP 0 rfl rfl 4 (by decide) (hts (.fieldLink RX10 46 "ShortEnough$Words" "kind" "I") zw_X10_isSign_254) (fun _ h9 => h9) rfl dX10_isSign_1 ?_
  refine lv_iconst (v := 3) hx hb dX10_isSign_4 (by decide +kernel) ?_
  refine lv_icmp_ne (tgt := 20) hx hb dX10_isSign_5 (by decide) (fun c_1 => ?_) (fun c_1 => ?_)
  · have oc_1 := zk_ne rfl (by decide +kernel : (3 : Int32).toInt = 3) c_1
    refine lv_iconst (v := 0) hx hb dX10_isSign_20 (by decide +kernel) ?_
    have hP9 := hP.sub (ws' := [(h0, .inr (10, [.ref r0_0, .ref r0_1, .int v0_2, .int v0_3, .int v0_4, .int v0_5, .int v0_6, .int v0_7]))]) [0] rfl
    have hD9 := hD.sub (ws' := [(h0, .inr (10, [.ref r0_0, .ref r0_1, .int v0_2, .int v0_3, .int v0_4, .int v0_5, .int v0_6, .int v0_7]))]) [0] (by decide) rfl
    have hK9 := hK.sub (tys' := []) [] rfl
    rw [← hQ]
    exact W.zret (v := 0) hx hb hr rfl (fun t ht hW => ⟨⟨0, ((fun k => ([] : List Int32).getD k 0), (fun k => ([] : List (Nat → Int32)).getD k (fun _ => 0)), (fun k => ([] : List (Nat → Int64)).getD k (fun _ => 0))), rfl, ⟨(show (0 : Int) ≤ (0 : Int32).toInt ∧ (0 : Int32).toInt ≤ 1 by decide +kernel), (show ((0 : Int32).toInt = 0 ∨ ((0 : Int) ≤ v0_4.toInt + (-3) ∧ (p1.toInt : Int) ≤ v0_6.toInt + (0) ∧ (v0_4.toInt : Int) ≤ 0 + (3) ∧ (v0_6.toInt : Int) ≤ p1.toInt + (0))) by exact Or.inl (by decide +kernel)), trivial⟩, by rw [ht]; exact hP9, va_K.moved hW.alike hK9, hD9⟩, hS.F ht⟩) hS.2.2 dX10_isSign_21
  have oc_1 := zk_eq rfl (by decide +kernel : (3 : Int32).toInt = 3) c_1
  refine lv_aload_n hx hb dX10_isSign_8 rfl (lv_at hl 0 rfl) ?_
  refine va_get (D := (dC, dI)) (ci := 10) (v := .int v0_6) (C := RX10) (T := TX10) (N := 8) hx hb hts zn_X10_isSign_X10 hown hK hP 0 rfl rfl 6 (by decide) (hts (.fieldLink RX10 59 "ShortEnough$Words" "value" "I") zw_X10_isSign_255) (fun _ h9 => h9) rfl dX10_isSign_9 ?_
  refine lv_iload_n hx hb dX10_isSign_12 rfl (lv_at hl 1 rfl) ?_
  refine lv_icmp_ne (tgt := 20) hx hb dX10_isSign_13 (by decide) (fun c_2 => ?_) (fun c_2 => ?_)
  · have oc_2 := zk_ne rfl rfl c_2
    refine lv_iconst (v := 0) hx hb dX10_isSign_20 (by decide +kernel) ?_
    have hP9 := hP.sub (ws' := [(h0, .inr (10, [.ref r0_0, .ref r0_1, .int v0_2, .int v0_3, .int v0_4, .int v0_5, .int v0_6, .int v0_7]))]) [0] rfl
    have hD9 := hD.sub (ws' := [(h0, .inr (10, [.ref r0_0, .ref r0_1, .int v0_2, .int v0_3, .int v0_4, .int v0_5, .int v0_6, .int v0_7]))]) [0] (by decide) rfl
    have hK9 := hK.sub (tys' := []) [] rfl
    rw [← hQ]
    exact W.zret (v := 0) hx hb hr rfl (fun t ht hW => ⟨⟨0, ((fun k => ([] : List Int32).getD k 0), (fun k => ([] : List (Nat → Int32)).getD k (fun _ => 0)), (fun k => ([] : List (Nat → Int64)).getD k (fun _ => 0))), rfl, ⟨(show (0 : Int) ≤ (0 : Int32).toInt ∧ (0 : Int32).toInt ≤ 1 by decide +kernel), (show ((0 : Int32).toInt = 0 ∨ ((0 : Int) ≤ v0_4.toInt + (-3) ∧ (p1.toInt : Int) ≤ v0_6.toInt + (0) ∧ (v0_4.toInt : Int) ≤ 0 + (3) ∧ (v0_6.toInt : Int) ≤ p1.toInt + (0))) by exact Or.inl (by decide +kernel)), trivial⟩, by rw [ht]; exact hP9, va_K.moved hW.alike hK9, hD9⟩, hS.F ht⟩) hS.2.2 dX10_isSign_21
  have oc_2 := zk_eq rfl rfl c_2
  refine lv_iconst (v := 1) hx hb dX10_isSign_16 (by decide +kernel) ?_
  refine lv_goto (tgt := 21) hx hb dX10_isSign_17 (by decide) ?_
  have hP9 := hP.sub (ws' := [(h0, .inr (10, [.ref r0_0, .ref r0_1, .int v0_2, .int v0_3, .int v0_4, .int v0_5, .int v0_6, .int v0_7]))]) [0] rfl
  have hD9 := hD.sub (ws' := [(h0, .inr (10, [.ref r0_0, .ref r0_1, .int v0_2, .int v0_3, .int v0_4, .int v0_5, .int v0_6, .int v0_7]))]) [0] (by decide) rfl
  have hK9 := hK.sub (tys' := []) [] rfl
  rw [← hQ]
  exact W.zret (v := 1) hx hb hr rfl (fun t ht hW => ⟨⟨1, ((fun k => ([] : List Int32).getD k 0), (fun k => ([] : List (Nat → Int32)).getD k (fun _ => 0)), (fun k => ([] : List (Nat → Int64)).getD k (fun _ => 0))), rfl, ⟨(show (0 : Int) ≤ (1 : Int32).toInt ∧ (1 : Int32).toInt ≤ 1 by decide +kernel), (show ((1 : Int32).toInt = 0 ∨ ((0 : Int) ≤ v0_4.toInt + (-3) ∧ (p1.toInt : Int) ≤ v0_6.toInt + (0) ∧ (v0_4.toInt : Int) ≤ 0 + (3) ∧ (v0_6.toInt : Int) ≤ p1.toInt + (0))) by right; omega), trivial⟩, by rw [ht]; exact hP9, va_K.moved hW.alike hK9, hD9⟩, hS.F ht⟩) hS.2.2 dX10_isSign_21
set_option maxHeartbeats 4000000 in
set_option maxRecDepth 100000 in
theorem zs_X10_isOwn (l : Launch) (dC : Nat → ClassId) (dI : Nat → Nat → Nat) (h0 : Nat) (p1 : Int32) (r0_0 : Nat) (r0_1 : Nat) (v0_2 : Int32) (v0_3 : Int32) (v0_4 : Int32) (v0_5 : Int32) (v0_6 : Int32) (v0_7 : Int32) (hq_v0_2 : (0 : Int) ≤ v0_2.toInt ∧ v0_2.toInt ≤ 1200) (hq_v0_3 : (0 : Int) ≤ v0_3.toInt ∧ v0_3.toInt ≤ 1200) (hq_v0_4 : (0 : Int) ≤ v0_4.toInt ∧ v0_4.toInt ≤ 5) (hq_v0_5 : (0 : Int) ≤ v0_5.toInt ∧ v0_5.toInt ≤ 1200) (hq_v0_7 : (-1 : Int) ≤ v0_7.toInt ∧ v0_7.toInt ≤ 12) (sz : Nat) : Met l yX10_isOwn wsX10_isOwn ({ frames := 0, cells := 0, slots := 0, locals := 0 }) (va_Pc [.ref h0, .int p1] (fun U => U.heap.size = sz ∧ va_P (dC, dI) vwCl [(h0, .inr (10, [.ref r0_0, .ref r0_1, .int v0_2, .int v0_3, .int v0_4, .int v0_5, .int v0_6, .int v0_7]))] U.heap ∧ va_K (dC, dI) vwCl [] U ∧ va_D (fun _ => True) [(h0, .inr (10, [.ref r0_0, .ref r0_1, .int v0_2, .int v0_3, .int v0_4, .int v0_5, .int v0_6, .int v0_7]))])) (va_Qi (fun (r : Int32) (u : zV) => ((0 : Int) ≤ r.toInt ∧ r.toInt ≤ 1) ∧ (r.toInt = 0 ∨ ((0 : Int) ≤ v0_4.toInt + (-1) ∧ (p1.toInt : Int) ≤ v0_7.toInt + (0) ∧ (v0_4.toInt : Int) ≤ 0 + (1) ∧ (v0_7.toInt : Int) ≤ p1.toInt + (0))) ∧ True) (fun u t => va_P (dC, dI) vwCl [(h0, .inr (10, [.ref r0_0, .ref r0_1, .int v0_2, .int v0_3, .int v0_4, .int v0_5, .int v0_6, .int v0_7]))] t.heap ∧ va_K (dC, dI) vwCl [] t ∧ va_D (va_A [(h0, .inr (10, [.ref r0_0, .ref r0_1, .int v0_2, .int v0_3, .int v0_4, .int v0_5, .int v0_6, .int v0_7]))] sz) [(h0, .inr (10, [.ref r0_0, .ref r0_1, .int v0_2, .int v0_3, .int v0_4, .int v0_5, .int v0_6, .int v0_7]))]) (va_A [(h0, .inr (10, [.ref r0_0, .ref r0_1, .int v0_2, .int v0_3, .int v0_4, .int v0_5, .int v0_6, .int v0_7]))] sz)) 0 0 (va_A [(h0, .inr (10, [.ref r0_0, .ref r0_1, .int v0_2, .int v0_3, .int v0_4, .int v0_5, .int v0_6, .int v0_7]))] sz) := by
  refine Met.ofW (cc := cX10_isOwn) (maxL := 2) (ret := (some .boolean)) (by decide +kernel) rfl ?_
  intro p e s m args below meth c s₁ B hml hv
  obtain ⟨rfl, hsz, hP, hK, hD0⟩ := hv
  have hx := B.exec
  have hb := B.bytes
  have hr := B.returns
  have hts := atoms_spec (ws := wsX10_isOwn) B.pre
  have hown : s.vm.findClass RX10 = some m.cls := findClass_of_methodNamed B.named
  have hlocks := B.notSynchronized
  subst hsz
  have hD := hD0.self (sz := s.heap.size)
  generalize hAe : va_A [(h0, .inr (10, [.ref r0_0, .ref r0_1, .int v0_2, .int v0_3, .int v0_4, .int v0_5, .int v0_6, .int v0_7]))] s.heap.size = A at hD ⊢
  have hA : ∀ q : Nat, s.heap.size ≤ q → A q := fun q h => by rw [← hAe]; exact Or.inr h
  have hS : va_S A s.heap s.heap [] := va_S.rf
  have hP : va_P (dC, dI) vwCl [(h0, .inr (10, [.ref r0_0, .ref r0_1, .int v0_2, .int v0_3, .int v0_4, .int v0_5, .int v0_6, .int v0_7]))] s.heap := hP
  have hl := lv_entry ([.ref h0, .int p1]) (n := 2) (Nat.le_of_ble_eq_true rfl)
  rw [lg_entry_eq]
  generalize (lg_sl ([.ref h0, .int p1]) ++ List.replicate (2 - (lg_sl ([.ref h0, .int p1])).length) Slot.unset).toArray = ls at hl ⊢
  have hl : lv_has ls 2 [(0, .ref h0), (1, .int p1)] := hl
  generalize hQ : MQ below (va_Qi (fun (r : Int32) (u : zV) => ((0 : Int) ≤ r.toInt ∧ r.toInt ≤ 1) ∧ (r.toInt = 0 ∨ ((0 : Int) ≤ v0_4.toInt + (-1) ∧ (p1.toInt : Int) ≤ v0_7.toInt + (0) ∧ (v0_4.toInt : Int) ≤ 0 + (1) ∧ (v0_7.toInt : Int) ≤ p1.toInt + (0))) ∧ True) (fun u t => va_P (dC, dI) vwCl [(h0, .inr (10, [.ref r0_0, .ref r0_1, .int v0_2, .int v0_3, .int v0_4, .int v0_5, .int v0_6, .int v0_7]))] t.heap ∧ va_K (dC, dI) vwCl [] t ∧ va_D A [(h0, .inr (10, [.ref r0_0, .ref r0_1, .int v0_2, .int v0_3, .int v0_4, .int v0_5, .int v0_6, .int v0_7]))]) A) ([.ref h0, .int p1] : List Value).toArray s 0 0 A = Q
  refine lv_aload_n hx hb dX10_isOwn_0 rfl (lv_at hl 0 rfl) ?_
  refine va_get (D := (dC, dI)) (ci := 10) (v := .int v0_4) (C := RX10) (T := TX10) (N := 8) hx hb hts zn_X10_isOwn_X10 hown hK hP 0 rfl rfl 4 (by decide) (hts (.fieldLink RX10 46 "ShortEnough$Words" "kind" "I") zw_X10_isOwn_257) (fun _ h9 => h9) rfl dX10_isOwn_1 ?_
  refine lv_iconst (v := 1) hx hb dX10_isOwn_4 (by decide +kernel) ?_
  refine lv_icmp_ne (tgt := 20) hx hb dX10_isOwn_5 (by decide) (fun c_1 => ?_) (fun c_1 => ?_)
  · have oc_1 := zk_ne rfl (by decide +kernel : (1 : Int32).toInt = 1) c_1
    refine lv_iconst (v := 0) hx hb dX10_isOwn_20 (by decide +kernel) ?_
    have hP9 := hP.sub (ws' := [(h0, .inr (10, [.ref r0_0, .ref r0_1, .int v0_2, .int v0_3, .int v0_4, .int v0_5, .int v0_6, .int v0_7]))]) [0] rfl
    have hD9 := hD.sub (ws' := [(h0, .inr (10, [.ref r0_0, .ref r0_1, .int v0_2, .int v0_3, .int v0_4, .int v0_5, .int v0_6, .int v0_7]))]) [0] (by decide) rfl
    have hK9 := hK.sub (tys' := []) [] rfl
    rw [← hQ]
    exact W.zret (v := 0) hx hb hr rfl (fun t ht hW => ⟨⟨0, ((fun k => ([] : List Int32).getD k 0), (fun k => ([] : List (Nat → Int32)).getD k (fun _ => 0)), (fun k => ([] : List (Nat → Int64)).getD k (fun _ => 0))), rfl, ⟨(show (0 : Int) ≤ (0 : Int32).toInt ∧ (0 : Int32).toInt ≤ 1 by decide +kernel), (show ((0 : Int32).toInt = 0 ∨ ((0 : Int) ≤ v0_4.toInt + (-1) ∧ (p1.toInt : Int) ≤ v0_7.toInt + (0) ∧ (v0_4.toInt : Int) ≤ 0 + (1) ∧ (v0_7.toInt : Int) ≤ p1.toInt + (0))) by exact Or.inl (by decide +kernel)), trivial⟩, by rw [ht]; exact hP9, va_K.moved hW.alike hK9, hD9⟩, hS.F ht⟩) hS.2.2 dX10_isOwn_21
  have oc_1 := zk_eq rfl (by decide +kernel : (1 : Int32).toInt = 1) c_1
  refine lv_aload_n hx hb dX10_isOwn_8 rfl (lv_at hl 0 rfl) ?_
  refine va_get (D := (dC, dI)) (ci := 10) (v := .int v0_7) (C := RX10) (T := TX10) (N := 8) hx hb hts zn_X10_isOwn_X10 hown hK hP 0 rfl rfl 7 (by decide) (hts (.fieldLink RX10 70 "ShortEnough$Words" "own" "I") zw_X10_isOwn_258) (fun _ h9 => h9) rfl dX10_isOwn_9 ?_
  refine lv_iload_n hx hb dX10_isOwn_12 rfl (lv_at hl 1 rfl) ?_
  refine lv_icmp_ne (tgt := 20) hx hb dX10_isOwn_13 (by decide) (fun c_2 => ?_) (fun c_2 => ?_)
  · have oc_2 := zk_ne rfl rfl c_2
    refine lv_iconst (v := 0) hx hb dX10_isOwn_20 (by decide +kernel) ?_
    have hP9 := hP.sub (ws' := [(h0, .inr (10, [.ref r0_0, .ref r0_1, .int v0_2, .int v0_3, .int v0_4, .int v0_5, .int v0_6, .int v0_7]))]) [0] rfl
    have hD9 := hD.sub (ws' := [(h0, .inr (10, [.ref r0_0, .ref r0_1, .int v0_2, .int v0_3, .int v0_4, .int v0_5, .int v0_6, .int v0_7]))]) [0] (by decide) rfl
    have hK9 := hK.sub (tys' := []) [] rfl
    rw [← hQ]
    exact W.zret (v := 0) hx hb hr rfl (fun t ht hW => ⟨⟨0, ((fun k => ([] : List Int32).getD k 0), (fun k => ([] : List (Nat → Int32)).getD k (fun _ => 0)), (fun k => ([] : List (Nat → Int64)).getD k (fun _ => 0))), rfl, ⟨(show (0 : Int) ≤ (0 : Int32).toInt ∧ (0 : Int32).toInt ≤ 1 by decide +kernel), (show ((0 : Int32).toInt = 0 ∨ ((0 : Int) ≤ v0_4.toInt + (-1) ∧ (p1.toInt : Int) ≤ v0_7.toInt + (0) ∧ (v0_4.toInt : Int) ≤ 0 + (1) ∧ (v0_7.toInt : Int) ≤ p1.toInt + (0))) by exact Or.inl (by decide +kernel)), trivial⟩, by rw [ht]; exact hP9, va_K.moved hW.alike hK9, hD9⟩, hS.F ht⟩) hS.2.2 dX10_isOwn_21
  have oc_2 := zk_eq rfl rfl c_2
  refine lv_iconst (v := 1) hx hb dX10_isOwn_16 (by decide +kernel) ?_
  refine lv_goto (tgt := 21) hx hb dX10_isOwn_17 (by decide) ?_
  have hP9 := hP.sub (ws' := [(h0, .inr (10, [.ref r0_0, .ref r0_1, .int v0_2, .int v0_3, .int v0_4, .int v0_5, .int v0_6, .int v0_7]))]) [0] rfl
  have hD9 := hD.sub (ws' := [(h0, .inr (10, [.ref r0_0, .ref r0_1, .int v0_2, .int v0_3, .int v0_4, .int v0_5, .int v0_6, .int v0_7]))]) [0] (by decide) rfl
  have hK9 := hK.sub (tys' := []) [] rfl
  rw [← hQ]
  exact W.zret (v := 1) hx hb hr rfl (fun t ht hW => ⟨⟨1, ((fun k => ([] : List Int32).getD k 0), (fun k => ([] : List (Nat → Int32)).getD k (fun _ => 0)), (fun k => ([] : List (Nat → Int64)).getD k (fun _ => 0))), rfl, ⟨(show (0 : Int) ≤ (1 : Int32).toInt ∧ (1 : Int32).toInt ≤ 1 by decide +kernel), (show ((1 : Int32).toInt = 0 ∨ ((0 : Int) ≤ v0_4.toInt + (-1) ∧ (p1.toInt : Int) ≤ v0_7.toInt + (0) ∧ (v0_4.toInt : Int) ≤ 0 + (1) ∧ (v0_7.toInt : Int) ≤ p1.toInt + (0))) by right; omega), trivial⟩, by rw [ht]; exact hP9, va_K.moved hW.alike hK9, hD9⟩, hS.F ht⟩) hS.2.2 dX10_isOwn_21
set_option maxHeartbeats 4000000 in
set_option maxRecDepth 100000 in
theorem zs_X10_isName (l : Launch) (dC : Nat → ClassId) (dI : Nat → Nat → Nat) (h0 : Nat) (r0_0 : Nat) (r0_1 : Nat) (v0_2 : Int32) (v0_3 : Int32) (v0_4 : Int32) (v0_5 : Int32) (v0_6 : Int32) (v0_7 : Int32) (hq_v0_2 : (0 : Int) ≤ v0_2.toInt ∧ v0_2.toInt ≤ 1200) (hq_v0_3 : (0 : Int) ≤ v0_3.toInt ∧ v0_3.toInt ≤ 1200) (hq_v0_4 : (0 : Int) ≤ v0_4.toInt ∧ v0_4.toInt ≤ 5) (hq_v0_5 : (0 : Int) ≤ v0_5.toInt ∧ v0_5.toInt ≤ 1200) (hq_v0_7 : (-1 : Int) ≤ v0_7.toInt ∧ v0_7.toInt ≤ 12) (sz : Nat) : Met l yX10_isName wsX10_isName ({ frames := 0, cells := 0, slots := 0, locals := 0 }) (va_Pc [.ref h0] (fun U => U.heap.size = sz ∧ va_P (dC, dI) vwCl [(h0, .inr (10, [.ref r0_0, .ref r0_1, .int v0_2, .int v0_3, .int v0_4, .int v0_5, .int v0_6, .int v0_7]))] U.heap ∧ va_K (dC, dI) vwCl [] U ∧ va_D (fun _ => True) [(h0, .inr (10, [.ref r0_0, .ref r0_1, .int v0_2, .int v0_3, .int v0_4, .int v0_5, .int v0_6, .int v0_7]))])) (va_Qi (fun (r : Int32) (u : zV) => ((0 : Int) ≤ r.toInt ∧ r.toInt ≤ 1) ∧ True) (fun u t => va_P (dC, dI) vwCl [(h0, .inr (10, [.ref r0_0, .ref r0_1, .int v0_2, .int v0_3, .int v0_4, .int v0_5, .int v0_6, .int v0_7]))] t.heap ∧ va_K (dC, dI) vwCl [] t ∧ va_D (va_A [(h0, .inr (10, [.ref r0_0, .ref r0_1, .int v0_2, .int v0_3, .int v0_4, .int v0_5, .int v0_6, .int v0_7]))] sz) [(h0, .inr (10, [.ref r0_0, .ref r0_1, .int v0_2, .int v0_3, .int v0_4, .int v0_5, .int v0_6, .int v0_7]))]) (va_A [(h0, .inr (10, [.ref r0_0, .ref r0_1, .int v0_2, .int v0_3, .int v0_4, .int v0_5, .int v0_6, .int v0_7]))] sz)) 0 0 (va_A [(h0, .inr (10, [.ref r0_0, .ref r0_1, .int v0_2, .int v0_3, .int v0_4, .int v0_5, .int v0_6, .int v0_7]))] sz) := by
  refine Met.ofW (cc := cX10_isName) (maxL := 1) (ret := (some .boolean)) (by decide +kernel) rfl ?_
  intro p e s m args below meth c s₁ B hml hv
  obtain ⟨rfl, hsz, hP, hK, hD0⟩ := hv
  have hx := B.exec
  have hb := B.bytes
  have hr := B.returns
  have hts := atoms_spec (ws := wsX10_isName) B.pre
  have hown : s.vm.findClass RX10 = some m.cls := findClass_of_methodNamed B.named
  have hlocks := B.notSynchronized
  subst hsz
  have hD := hD0.self (sz := s.heap.size)
  generalize hAe : va_A [(h0, .inr (10, [.ref r0_0, .ref r0_1, .int v0_2, .int v0_3, .int v0_4, .int v0_5, .int v0_6, .int v0_7]))] s.heap.size = A at hD ⊢
  have hA : ∀ q : Nat, s.heap.size ≤ q → A q := fun q h => by rw [← hAe]; exact Or.inr h
  have hS : va_S A s.heap s.heap [] := va_S.rf
  have hP : va_P (dC, dI) vwCl [(h0, .inr (10, [.ref r0_0, .ref r0_1, .int v0_2, .int v0_3, .int v0_4, .int v0_5, .int v0_6, .int v0_7]))] s.heap := hP
  have hl := lv_entry ([.ref h0]) (n := 1) (Nat.le_of_ble_eq_true rfl)
  rw [lg_entry_eq]
  generalize (lg_sl ([.ref h0]) ++ List.replicate (1 - (lg_sl ([.ref h0])).length) Slot.unset).toArray = ls at hl ⊢
  have hl : lv_has ls 1 [(0, .ref h0)] := hl
  generalize hQ : MQ below (va_Qi (fun (r : Int32) (u : zV) => ((0 : Int) ≤ r.toInt ∧ r.toInt ≤ 1) ∧ True) (fun u t => va_P (dC, dI) vwCl [(h0, .inr (10, [.ref r0_0, .ref r0_1, .int v0_2, .int v0_3, .int v0_4, .int v0_5, .int v0_6, .int v0_7]))] t.heap ∧ va_K (dC, dI) vwCl [] t ∧ va_D A [(h0, .inr (10, [.ref r0_0, .ref r0_1, .int v0_2, .int v0_3, .int v0_4, .int v0_5, .int v0_6, .int v0_7]))]) A) ([.ref h0] : List Value).toArray s 0 0 A = Q
  refine lv_aload_n hx hb dX10_isName_0 rfl (lv_at hl 0 rfl) ?_
  refine va_get (D := (dC, dI)) (ci := 10) (v := .int v0_4) (C := RX10) (T := TX10) (N := 8) hx hb hts zn_X10_isName_X10 hown hK hP 0 rfl rfl 4 (by decide) (hts (.fieldLink RX10 46 "ShortEnough$Words" "kind" "I") zw_X10_isName_260) (fun _ h9 => h9) rfl dX10_isName_1 ?_
  refine lv_iconst (v := 1) hx hb dX10_isName_4 (by decide +kernel) ?_
  refine lv_icmp_ne (tgt := 20) hx hb dX10_isName_5 (by decide) (fun c_1 => ?_) (fun c_1 => ?_)
  · have oc_1 := zk_ne rfl (by decide +kernel : (1 : Int32).toInt = 1) c_1
    refine lv_iconst (v := 0) hx hb dX10_isName_20 (by decide +kernel) ?_
    have hP9 := hP.sub (ws' := [(h0, .inr (10, [.ref r0_0, .ref r0_1, .int v0_2, .int v0_3, .int v0_4, .int v0_5, .int v0_6, .int v0_7]))]) [0] rfl
    have hD9 := hD.sub (ws' := [(h0, .inr (10, [.ref r0_0, .ref r0_1, .int v0_2, .int v0_3, .int v0_4, .int v0_5, .int v0_6, .int v0_7]))]) [0] (by decide) rfl
    have hK9 := hK.sub (tys' := []) [] rfl
    rw [← hQ]
    exact W.zret (v := 0) hx hb hr rfl (fun t ht hW => ⟨⟨0, ((fun k => ([] : List Int32).getD k 0), (fun k => ([] : List (Nat → Int32)).getD k (fun _ => 0)), (fun k => ([] : List (Nat → Int64)).getD k (fun _ => 0))), rfl, ⟨(show (0 : Int) ≤ (0 : Int32).toInt ∧ (0 : Int32).toInt ≤ 1 by decide +kernel), trivial⟩, by rw [ht]; exact hP9, va_K.moved hW.alike hK9, hD9⟩, hS.F ht⟩) hS.2.2 dX10_isName_21
  have oc_1 := zk_eq rfl (by decide +kernel : (1 : Int32).toInt = 1) c_1
  refine lv_aload_n hx hb dX10_isName_8 rfl (lv_at hl 0 rfl) ?_
  refine va_get (D := (dC, dI)) (ci := 10) (v := .int v0_7) (C := RX10) (T := TX10) (N := 8) hx hb hts zn_X10_isName_X10 hown hK hP 0 rfl rfl 7 (by decide) (hts (.fieldLink RX10 70 "ShortEnough$Words" "own" "I") zw_X10_isName_261) (fun _ h9 => h9) rfl dX10_isName_9 ?_
  refine lv_iconst (v := (-1)) hx hb dX10_isName_12 (by decide +kernel) ?_
  refine lv_icmp_ne (tgt := 20) hx hb dX10_isName_13 (by decide) (fun c_2 => ?_) (fun c_2 => ?_)
  · have oc_2 := zk_ne rfl (by decide +kernel : ((-1) : Int32).toInt = -1) c_2
    refine lv_iconst (v := 0) hx hb dX10_isName_20 (by decide +kernel) ?_
    have hP9 := hP.sub (ws' := [(h0, .inr (10, [.ref r0_0, .ref r0_1, .int v0_2, .int v0_3, .int v0_4, .int v0_5, .int v0_6, .int v0_7]))]) [0] rfl
    have hD9 := hD.sub (ws' := [(h0, .inr (10, [.ref r0_0, .ref r0_1, .int v0_2, .int v0_3, .int v0_4, .int v0_5, .int v0_6, .int v0_7]))]) [0] (by decide) rfl
    have hK9 := hK.sub (tys' := []) [] rfl
    rw [← hQ]
    exact W.zret (v := 0) hx hb hr rfl (fun t ht hW => ⟨⟨0, ((fun k => ([] : List Int32).getD k 0), (fun k => ([] : List (Nat → Int32)).getD k (fun _ => 0)), (fun k => ([] : List (Nat → Int64)).getD k (fun _ => 0))), rfl, ⟨(show (0 : Int) ≤ (0 : Int32).toInt ∧ (0 : Int32).toInt ≤ 1 by decide +kernel), trivial⟩, by rw [ht]; exact hP9, va_K.moved hW.alike hK9, hD9⟩, hS.F ht⟩) hS.2.2 dX10_isName_21
  have oc_2 := zk_eq rfl (by decide +kernel : ((-1) : Int32).toInt = -1) c_2
  refine lv_iconst (v := 1) hx hb dX10_isName_16 (by decide +kernel) ?_
  refine lv_goto (tgt := 21) hx hb dX10_isName_17 (by decide) ?_
  have hP9 := hP.sub (ws' := [(h0, .inr (10, [.ref r0_0, .ref r0_1, .int v0_2, .int v0_3, .int v0_4, .int v0_5, .int v0_6, .int v0_7]))]) [0] rfl
  have hD9 := hD.sub (ws' := [(h0, .inr (10, [.ref r0_0, .ref r0_1, .int v0_2, .int v0_3, .int v0_4, .int v0_5, .int v0_6, .int v0_7]))]) [0] (by decide) rfl
  have hK9 := hK.sub (tys' := []) [] rfl
  rw [← hQ]
  exact W.zret (v := 1) hx hb hr rfl (fun t ht hW => ⟨⟨1, ((fun k => ([] : List Int32).getD k 0), (fun k => ([] : List (Nat → Int32)).getD k (fun _ => 0)), (fun k => ([] : List (Nat → Int64)).getD k (fun _ => 0))), rfl, ⟨(show (0 : Int) ≤ (1 : Int32).toInt ∧ (1 : Int32).toInt ≤ 1 by decide +kernel), trivial⟩, by rw [ht]; exact hP9, va_K.moved hW.alike hK9, hD9⟩, hS.F ht⟩) hS.2.2 dX10_isName_21
set_option maxHeartbeats 4000000 in
set_option maxRecDepth 100000 in
theorem zs_X10_advance (l : Launch) (dC : Nat → ClassId) (dI : Nat → Nat → Nat) (h0 : Nat) (r0_0 : Nat) (r0_1 : Nat) (v0_2 : Int32) (v0_3 : Int32) (v0_4 : Int32) (v0_5 : Int32) (v0_6 : Int32) (v0_7 : Int32) (k1 : Nat) (f1 : Nat → Int32) (k2 : Nat) (f2 : Nat → Int32) (hq_v0_2 : (0 : Int) ≤ v0_2.toInt ∧ v0_2.toInt ≤ 1200) (hq_v0_3 : (0 : Int) ≤ v0_3.toInt ∧ v0_3.toInt ≤ 1200) (hq_v0_4 : (0 : Int) ≤ v0_4.toInt ∧ v0_4.toInt ≤ 5) (hq_v0_5 : (0 : Int) ≤ v0_5.toInt ∧ v0_5.toInt ≤ 1200) (hq_v0_7 : (-1 : Int) ≤ v0_7.toInt ∧ v0_7.toInt ≤ 12) (sz : Nat) : Met l yX10_advance wsX10_advance ({ frames := 1, cells := 0, slots := 0, locals := 22 }) (va_Pc [.ref h0] (fun U => U.heap.size = sz ∧ va_P (dC, dI) vwCl [(h0, .inr (10, [.ref r0_0, .ref r0_1, .int v0_2, .int v0_3, .int v0_4, .int v0_5, .int v0_6, .int v0_7])), (r0_1, .inl (k1, 1200, .inl f1)), (r0_0, .inl (k2, 13, .inl f2))] U.heap ∧ va_K (dC, dI) vwCl [(k1, .byte), (k2, .int)] U ∧ va_D (fun _ => True) [(h0, .inr (10, [.ref r0_0, .ref r0_1, .int v0_2, .int v0_3, .int v0_4, .int v0_5, .int v0_6, .int v0_7])), (r0_1, .inl (k1, 1200, .inl f1)), (r0_0, .inl (k2, 13, .inl f2))])) (va_Qv (fun (u : zV) => ((0 : Int) ≤ (u.1 0).toInt ∧ (u.1 0).toInt ≤ 1200) ∧ ((0 : Int) ≤ (u.1 1).toInt ∧ (u.1 1).toInt ≤ 5) ∧ ((0 : Int) ≤ (u.1 2).toInt ∧ (u.1 2).toInt ≤ 1200) ∧ ((-1 : Int) ≤ (u.1 4).toInt ∧ (u.1 4).toInt ≤ 12) ∧ True) (fun u t => va_P (dC, dI) vwCl [(h0, .inr (10, [.ref r0_0, .ref r0_1, .int v0_2, .int (u.1 0), .int (u.1 1), .int (u.1 2), .int (u.1 3), .int (u.1 4)])), (r0_1, .inl (k1, 1200, .inl f1)), (r0_0, .inl (k2, 13, .inl f2))] t.heap ∧ va_K (dC, dI) vwCl [(k1, .byte), (k2, .int)] t ∧ va_D (va_A [(h0, .inr (10, [.ref r0_0, .ref r0_1, .int v0_2, .int v0_3, .int v0_4, .int v0_5, .int v0_6, .int v0_7])), (r0_1, .inl (k1, 1200, .inl f1)), (r0_0, .inl (k2, 13, .inl f2))] sz) [(h0, .inr (10, [.ref r0_0, .ref r0_1, .int v0_2, .int (u.1 0), .int (u.1 1), .int (u.1 2), .int (u.1 3), .int (u.1 4)])), (r0_1, .inl (k1, 1200, .inl f1)), (r0_0, .inl (k2, 13, .inl f2))]) (va_A [(h0, .inr (10, [.ref r0_0, .ref r0_1, .int v0_2, .int v0_3, .int v0_4, .int v0_5, .int v0_6, .int v0_7])), (r0_1, .inl (k1, 1200, .inl f1)), (r0_0, .inl (k2, 13, .inl f2))] sz)) 0 0 (va_A [(h0, .inr (10, [.ref r0_0, .ref r0_1, .int v0_2, .int v0_3, .int v0_4, .int v0_5, .int v0_6, .int v0_7])), (r0_1, .inl (k1, 1200, .inl f1)), (r0_0, .inl (k2, 13, .inl f2))] sz) := by
  refine Met.ofW (cc := cX10_advance) (maxL := 5) (ret := none) (by decide +kernel) rfl ?_
  intro p e s m args below meth c s₁ B hml hv
  obtain ⟨rfl, hsz, hP, hK, hD0⟩ := hv
  have hx := B.exec
  have hb := B.bytes
  have hr := B.returns
  have hts := atoms_spec (ws := wsX10_advance) B.pre
  have hown : s.vm.findClass RX10 = some m.cls := findClass_of_methodNamed B.named
  have hlocks := B.notSynchronized
  subst hsz
  have hD := hD0.self (sz := s.heap.size)
  generalize hAe : va_A [(h0, .inr (10, [.ref r0_0, .ref r0_1, .int v0_2, .int v0_3, .int v0_4, .int v0_5, .int v0_6, .int v0_7])), (r0_1, .inl (k1, 1200, .inl f1)), (r0_0, .inl (k2, 13, .inl f2))] s.heap.size = A at hD ⊢
  have hA : ∀ q : Nat, s.heap.size ≤ q → A q := fun q h => by rw [← hAe]; exact Or.inr h
  have hS : va_S A s.heap s.heap [] := va_S.rf
  have hP : va_P (dC, dI) vwCl [(h0, .inr (10, [.ref r0_0, .ref r0_1, .int v0_2, .int v0_3, .int v0_4, .int v0_5, .int v0_6, .int v0_7])), (r0_1, .inl (k1, 1200, .inl f1)), (r0_0, .inl (k2, 13, .inl f2))] s.heap := hP
  have hl := lv_entry ([.ref h0]) (n := 5) (Nat.le_of_ble_eq_true rfl)
  rw [lg_entry_eq]
  generalize (lg_sl ([.ref h0]) ++ List.replicate (5 - (lg_sl ([.ref h0])).length) Slot.unset).toArray = ls at hl ⊢
  have hl : lv_has ls 5 [(0, .ref h0)] := hl
  generalize hQ : MQ below (va_Qv (fun (u : zV) => ((0 : Int) ≤ (u.1 0).toInt ∧ (u.1 0).toInt ≤ 1200) ∧ ((0 : Int) ≤ (u.1 1).toInt ∧ (u.1 1).toInt ≤ 5) ∧ ((0 : Int) ≤ (u.1 2).toInt ∧ (u.1 2).toInt ≤ 1200) ∧ ((-1 : Int) ≤ (u.1 4).toInt ∧ (u.1 4).toInt ≤ 12) ∧ True) (fun u t => va_P (dC, dI) vwCl [(h0, .inr (10, [.ref r0_0, .ref r0_1, .int v0_2, .int (u.1 0), .int (u.1 1), .int (u.1 2), .int (u.1 3), .int (u.1 4)])), (r0_1, .inl (k1, 1200, .inl f1)), (r0_0, .inl (k2, 13, .inl f2))] t.heap ∧ va_K (dC, dI) vwCl [(k1, .byte), (k2, .int)] t ∧ va_D A [(h0, .inr (10, [.ref r0_0, .ref r0_1, .int v0_2, .int (u.1 0), .int (u.1 1), .int (u.1 2), .int (u.1 3), .int (u.1 4)])), (r0_1, .inl (k1, 1200, .inl f1)), (r0_0, .inl (k2, 13, .inl f2))]) A) ([.ref h0] : List Value).toArray s 0 0 A = Q
  refine lv_aload_n hx hb dX10_advance_0 rfl (lv_at hl 0 rfl) ?_
  refine va_get (D := (dC, dI)) (ci := 10) (v := .int v0_3) (C := RX10) (T := TX10) (N := 8) hx hb hts zn_X10_advance_X10 hown hK hP 0 rfl rfl 3 (by decide) (hts (.fieldLink RX10 43 "ShortEnough$Words" "place" "I") zw_X10_advance_263) (fun _ h9 => h9) rfl dX10_advance_1 ?_
  refine lv_istore_n (lv' := [(1, .int v0_3), (0, .ref h0)]) hx hb dX10_advance_4 rfl hl (by decide) rfl (fun ls hl => ?_)
  refine lv_aload_n hx hb dX10_advance_5 rfl (lv_at hl 1 rfl) ?_
  refine va_get (D := (dC, dI)) (ci := 10) (v := .int v0_4) (C := RX10) (T := TX10) (N := 8) hx hb hts zn_X10_advance_X10 hown hK hP 0 rfl rfl 4 (by decide) (hts (.fieldLink RX10 46 "ShortEnough$Words" "kind" "I") zw_X10_advance_264) (fun _ h9 => h9) rfl dX10_advance_6 ?_
  refine lv_iconst (v := 1) hx hb dX10_advance_9 (by decide +kernel) ?_
  have jp21_190 : ∀  (H : Heap) (locs : List Loc) (ls : Array Slot), (0 : Int) ≤ v0_4.toInt + (-1) → (v0_4.toInt : Int) ≤ 0 + (2) → va_P (dC, dI) vwCl [(h0, .inr (10, [.ref r0_0, .ref r0_1, .int v0_2, .int v0_3, .int v0_4, .int v0_5, .int v0_6, .int v0_7])), (r0_1, .inl (k1, 1200, .inl f1)), (r0_0, .inl (k2, 13, .inl f2))] H → va_D A [(h0, .inr (10, [.ref r0_0, .ref r0_1, .int v0_2, .int v0_3, .int v0_4, .int v0_5, .int v0_6, .int v0_7])), (r0_1, .inl (k1, 1200, .inl f1)), (r0_0, .inl (k2, 13, .inl f2))] → va_S A s.heap H locs → lv_has ls 5 [(1, .int v0_3), (0, .ref h0)] → W p l e (headSpec wsX10_advance ({ frames := 1, cells := 0, slots := 0, locals := 22 })).room s m ([.ref h0] : List Value).toArray below meth c H locs 0 0 Q (F0 m 21 ls []) := by
    intro H locs ls hj190_0 hj190_1  hP hD hS hl
    refine lv_iconst (v := 1) hx hb dX10_advance_21 (by decide +kernel) ?_
    refine lv_goto (tgt := 26) hx hb dX10_advance_22 (by decide) ?_
    refine lv_istore_n (lv' := [(2, .int 1), (1, .int v0_3), (0, .ref h0)]) hx hb dX10_advance_26 rfl hl (by decide) rfl (fun ls hl => ?_)
    have lp27 : ∀ (n : Nat) (y27_h0_3 : Int32) (H : Heap) (locs : List Loc) (ls : Array Slot), (0 : Int) ≤ y27_h0_3.toInt + (0) → (v0_3.toInt : Int) ≤ y27_h0_3.toInt + (0) → (y27_h0_3.toInt : Int) ≤ 0 + (1200) → 1201 - y27_h0_3.toInt < n → va_P (dC, dI) vwCl [(h0, .inr (10, [.ref r0_0, .ref r0_1, .int v0_2, .int y27_h0_3, .int v0_4, .int v0_5, .int v0_6, .int v0_7])), (r0_1, .inl (k1, 1200, .inl f1)), (r0_0, .inl (k2, 13, .inl f2))] H → va_D A [(h0, .inr (10, [.ref r0_0, .ref r0_1, .int v0_2, .int y27_h0_3, .int v0_4, .int v0_5, .int v0_6, .int v0_7])), (r0_1, .inl (k1, 1200, .inl f1)), (r0_0, .inl (k2, 13, .inl f2))] → va_S A s.heap H locs → lv_has ls 5 [(2, .int 1), (1, .int v0_3), (0, .ref h0)] → W p l e (headSpec wsX10_advance ({ frames := 1, cells := 0, slots := 0, locals := 22 })).room s m ([.ref h0] : List Value).toArray below meth c H locs 0 0 Q (F0 m 27 ls []) := by
      intro n
      induction n with
      | zero =>
        intro y27_h0_3 H locs ls hz27_0 hz27_1 hz27_2  hmeas hP hD hS hl
        exfalso; omega
      | succ n ih27 =>
        intro y27_h0_3 H locs ls hz27_0 hz27_1 hz27_2  hmeas hP hD hS hl
        refine lv_aload_n hx hb dX10_advance_27 rfl (lv_at hl 2 rfl) ?_
        refine va_get (D := (dC, dI)) (ci := 10) (v := .int y27_h0_3) (C := RX10) (T := TX10) (N := 8) hx hb hts zn_X10_advance_X10 hown hK hP 0 rfl rfl 3 (by decide) (hts (.fieldLink RX10 43 "ShortEnough$Words" "place" "I") zw_X10_advance_263) (fun _ h9 => h9) rfl dX10_advance_28 ?_
        refine lv_aload_n hx hb dX10_advance_31 rfl (lv_at hl 2 rfl) ?_
        refine va_get (D := (dC, dI)) (ci := 10) (v := .int v0_2) (C := RX10) (T := TX10) (N := 8) hx hb hts zn_X10_advance_X10 hown hK hP 0 rfl rfl 2 (by decide) (hts (.fieldLink RX10 40 "ShortEnough$Words" "length" "I") zw_X10_advance_265) (fun _ h9 => h9) rfl dX10_advance_32 ?_
        have jp67_417 : ∀  (H : Heap) (locs : List Loc) (ls : Array Slot), va_P (dC, dI) vwCl [(h0, .inr (10, [.ref r0_0, .ref r0_1, .int v0_2, .int y27_h0_3, .int v0_4, .int v0_5, .int v0_6, .int v0_7])), (r0_1, .inl (k1, 1200, .inl f1)), (r0_0, .inl (k2, 13, .inl f2))] H → va_D A [(h0, .inr (10, [.ref r0_0, .ref r0_1, .int v0_2, .int y27_h0_3, .int v0_4, .int v0_5, .int v0_6, .int v0_7])), (r0_1, .inl (k1, 1200, .inl f1)), (r0_0, .inl (k2, 13, .inl f2))] → va_S A s.heap H locs → lv_has ls 5 [(2, .int 1), (1, .int v0_3), (0, .ref h0)] → W p l e (headSpec wsX10_advance ({ frames := 1, cells := 0, slots := 0, locals := 22 })).room s m ([.ref h0] : List Value).toArray below meth c H locs 0 0 Q (F0 m 67 ls []) := by
          intro H locs ls  hP hD hS hl
          refine lv_aload_n hx hb dX10_advance_67 rfl (lv_at hl 2 rfl) ?_
          refine lv_aload_n hx hb dX10_advance_68 rfl (lv_at hl 2 rfl) ?_
          refine va_get (D := (dC, dI)) (ci := 10) (v := .int y27_h0_3) (C := RX10) (T := TX10) (N := 8) hx hb hts zn_X10_advance_X10 hown hK hP 0 rfl rfl 3 (by decide) (hts (.fieldLink RX10 43 "ShortEnough$Words" "place" "I") zw_X10_advance_263) (fun _ h9 => h9) rfl dX10_advance_69 ?_
          refine va_put (D := (dC, dI)) (ci := 10) (v := .int y27_h0_3) (ty := .int) (C := RX10) (T := TX10) (N := 8) hx hb hts zn_X10_advance_X10 tyX10 tyX10_ok nmX10 hown hK hP hD hS 0 rfl rfl 5 (by decide) (hts (.fieldLink RX10 56 "ShortEnough$Words" "start" "I") zw_X10_advance_267) (fun _ h9 => h9) rfl (by decide +kernel) rfl rfl (Nat.le_of_ble_eq_true rfl) dX10_advance_72 (fun H locs hP hD hS => ?_)
          have hP : va_P (dC, dI) vwCl [(h0, .inr (10, [.ref r0_0, .ref r0_1, .int v0_2, .int y27_h0_3, .int v0_4, .int y27_h0_3, .int v0_6, .int v0_7])), (r0_1, .inl (k1, 1200, .inl f1)), (r0_0, .inl (k2, 13, .inl f2))] H := hP
          have hD : va_D A [(h0, .inr (10, [.ref r0_0, .ref r0_1, .int v0_2, .int y27_h0_3, .int v0_4, .int y27_h0_3, .int v0_6, .int v0_7])), (r0_1, .inl (k1, 1200, .inl f1)), (r0_0, .inl (k2, 13, .inl f2))] := hD
          refine lv_aload_n hx hb dX10_advance_75 rfl (lv_at hl 2 rfl) ?_
          refine lv_aload_n hx hb dX10_advance_76 rfl (lv_at hl 2 rfl) ?_
          refine va_get (D := (dC, dI)) (ci := 10) (v := .int y27_h0_3) (C := RX10) (T := TX10) (N := 8) hx hb hts zn_X10_advance_X10 hown hK hP 0 rfl rfl 3 (by decide) (hts (.fieldLink RX10 43 "ShortEnough$Words" "place" "I") zw_X10_advance_263) (fun _ h9 => h9) rfl dX10_advance_77 ?_
          refine lv_aload_n hx hb dX10_advance_80 rfl (lv_at hl 2 rfl) ?_
          refine va_get (D := (dC, dI)) (ci := 10) (v := .int v0_2) (C := RX10) (T := TX10) (N := 8) hx hb hts zn_X10_advance_X10 hown hK hP 0 rfl rfl 2 (by decide) (hts (.fieldLink RX10 40 "ShortEnough$Words" "length" "I") zw_X10_advance_265) (fun _ h9 => h9) rfl dX10_advance_81 ?_
          refine lv_icmp_ge (tgt := 102) hx hb dX10_advance_84 (by decide) (fun c_1 => ?_) (fun c_1 => ?_)
          · have oc_1 := zk_le rfl rfl c_1
            refine lv_iconst (v := 0) hx hb dX10_advance_102 (by decide +kernel) ?_
            refine va_put (D := (dC, dI)) (ci := 10) (v := .int 0) (ty := .int) (C := RX10) (T := TX10) (N := 8) hx hb hts zn_X10_advance_X10 tyX10 tyX10_ok nmX10 hown hK hP hD hS 0 rfl rfl 4 (by decide) (hts (.fieldLink RX10 46 "ShortEnough$Words" "kind" "I") zw_X10_advance_264) (fun _ h9 => h9) rfl (by decide +kernel) rfl rfl (Nat.le_of_ble_eq_true rfl) dX10_advance_103 (fun H locs hP hD hS => ?_)
            have hP : va_P (dC, dI) vwCl [(h0, .inr (10, [.ref r0_0, .ref r0_1, .int v0_2, .int y27_h0_3, .int 0, .int y27_h0_3, .int v0_6, .int v0_7])), (r0_1, .inl (k1, 1200, .inl f1)), (r0_0, .inl (k2, 13, .inl f2))] H := hP
            have hD : va_D A [(h0, .inr (10, [.ref r0_0, .ref r0_1, .int v0_2, .int y27_h0_3, .int 0, .int y27_h0_3, .int v0_6, .int v0_7])), (r0_1, .inl (k1, 1200, .inl f1)), (r0_0, .inl (k2, 13, .inl f2))] := hD
            refine lv_aload_n hx hb dX10_advance_106 rfl (lv_at hl 2 rfl) ?_
            refine lv_iconst (v := 0) hx hb dX10_advance_107 (by decide +kernel) ?_
            refine va_put (D := (dC, dI)) (ci := 10) (v := .int 0) (ty := .int) (C := RX10) (T := TX10) (N := 8) hx hb hts zn_X10_advance_X10 tyX10 tyX10_ok nmX10 hown hK hP hD hS 0 rfl rfl 6 (by decide) (hts (.fieldLink RX10 59 "ShortEnough$Words" "value" "I") zw_X10_advance_268) (fun _ h9 => h9) rfl (by decide +kernel) rfl rfl (Nat.le_of_ble_eq_true rfl) dX10_advance_108 (fun H locs hP hD hS => ?_)
            have hP : va_P (dC, dI) vwCl [(h0, .inr (10, [.ref r0_0, .ref r0_1, .int v0_2, .int y27_h0_3, .int 0, .int y27_h0_3, .int 0, .int v0_7])), (r0_1, .inl (k1, 1200, .inl f1)), (r0_0, .inl (k2, 13, .inl f2))] H := hP
            have hD : va_D A [(h0, .inr (10, [.ref r0_0, .ref r0_1, .int v0_2, .int y27_h0_3, .int 0, .int y27_h0_3, .int 0, .int v0_7])), (r0_1, .inl (k1, 1200, .inl f1)), (r0_0, .inl (k2, 13, .inl f2))] := hD
            refine lv_iconst (v := 0) hx hb dX10_advance_111 (by decide +kernel) ?_
            refine lv_istore_n (lv' := [(3, .int 0), (2, .int 1), (1, .int v0_3), (0, .ref h0)]) hx hb dX10_advance_112 rfl hl (by decide) rfl (fun ls hl => ?_)
            refine lv_aload_n hx hb dX10_advance_113 rfl (lv_at hl 3 rfl) ?_
            refine va_get (D := (dC, dI)) (ci := 10) (v := .int y27_h0_3) (C := RX10) (T := TX10) (N := 8) hx hb hts zn_X10_advance_X10 hown hK hP 0 rfl rfl 3 (by decide) (hts (.fieldLink RX10 43 "ShortEnough$Words" "place" "I") zw_X10_advance_263) (fun _ h9 => h9) rfl dX10_advance_114 ?_
            refine lv_aload_n hx hb dX10_advance_117 rfl (lv_at hl 3 rfl) ?_
            refine va_get (D := (dC, dI)) (ci := 10) (v := .int v0_2) (C := RX10) (T := TX10) (N := 8) hx hb hts zn_X10_advance_X10 hown hK hP 0 rfl rfl 2 (by decide) (hts (.fieldLink RX10 40 "ShortEnough$Words" "length" "I") zw_X10_advance_265) (fun _ h9 => h9) rfl dX10_advance_118 ?_
            refine lv_icmp_ge (tgt := 185) hx hb dX10_advance_121 (by decide) (fun c_2 => ?_) (fun c_2 => by exfalso; have oc_2 := zk_nle rfl rfl c_2; omega)
            have oc_2 := zk_le rfl rfl c_2
            refine lv_iload_n hx hb dX10_advance_185 rfl (lv_at hl 1 rfl) ?_
            refine lv_if_eq (tgt := 217) hx hb dX10_advance_186 (by decide) (fun c_3 => by exfalso; have oc_3 := zk_eq (by decide +kernel : (1 : Int32).toInt = 1) (by decide +kernel : (0 : Int32).toInt = 0) c_3; omega) (fun c_3 => ?_)
            have oc_3 := zk_ne (by decide +kernel : (1 : Int32).toInt = 1) (by decide +kernel : (0 : Int32).toInt = 0) c_3
            refine lv_aload_n hx hb dX10_advance_189 rfl (lv_at hl 3 rfl) ?_
            refine va_get (D := (dC, dI)) (ci := 10) (v := .int y27_h0_3) (C := RX10) (T := TX10) (N := 8) hx hb hts zn_X10_advance_X10 hown hK hP 0 rfl rfl 5 (by decide) (hts (.fieldLink RX10 56 "ShortEnough$Words" "start" "I") zw_X10_advance_267) (fun _ h9 => h9) rfl dX10_advance_190 ?_
            refine lv_iload_n hx hb dX10_advance_193 rfl (lv_at hl 2 rfl) ?_
            have jp217_419 : ∀  (H : Heap) (locs : List Loc) (ls : Array Slot), va_P (dC, dI) vwCl [(h0, .inr (10, [.ref r0_0, .ref r0_1, .int v0_2, .int y27_h0_3, .int 0, .int y27_h0_3, .int 0, .int v0_7])), (r0_1, .inl (k1, 1200, .inl f1)), (r0_0, .inl (k2, 13, .inl f2))] H → va_D A [(h0, .inr (10, [.ref r0_0, .ref r0_1, .int v0_2, .int y27_h0_3, .int 0, .int y27_h0_3, .int 0, .int v0_7])), (r0_1, .inl (k1, 1200, .inl f1)), (r0_0, .inl (k2, 13, .inl f2))] → va_S A s.heap H locs → lv_has ls 5 [(3, .int 0), (2, .int 1), (1, .int v0_3), (0, .ref h0)] → W p l e (headSpec wsX10_advance ({ frames := 1, cells := 0, slots := 0, locals := 22 })).room s m ([.ref h0] : List Value).toArray below meth c H locs 0 0 Q (F0 m 217 ls []) := by
              intro H locs ls  hP hD hS hl
              refine lv_iconst (v := 0) hx hb dX10_advance_217 (by decide +kernel) ?_
              refine lv_istore (lv' := [(4, .int 0), (3, .int 0), (2, .int 1), (1, .int v0_3), (0, .ref h0)]) hx hb dX10_advance_218 hl (by decide) rfl (fun ls hl => ?_)
              refine lv_iload hx hb dX10_advance_220 (lv_at hl 0 rfl) ?_
              refine lv_if_ne (tgt := 253) hx hb dX10_advance_222 (by decide) (fun c_4 => by exfalso; have oc_4 := zk_ne (by decide +kernel : (0 : Int32).toInt = 0) (by decide +kernel : (0 : Int32).toInt = 0) c_4; omega) (fun c_4 => ?_)
              have oc_4 := zk_eq (by decide +kernel : (0 : Int32).toInt = 0) (by decide +kernel : (0 : Int32).toInt = 0) c_4
              refine lv_aload_n hx hb dX10_advance_225 rfl (lv_at hl 4 rfl) ?_
              refine va_get (D := (dC, dI)) (ci := 10) (v := .int 0) (C := RX10) (T := TX10) (N := 8) hx hb hts zn_X10_advance_X10 hown hK hP 0 rfl rfl 4 (by decide) (hts (.fieldLink RX10 46 "ShortEnough$Words" "kind" "I") zw_X10_advance_264) (fun _ h9 => h9) rfl dX10_advance_226 ?_
              refine lv_iconst (v := 1) hx hb dX10_advance_229 (by decide +kernel) ?_
              refine lv_icmp_ne (tgt := 239) hx hb dX10_advance_230 (by decide) (fun c_5 => ?_) (fun c_5 => by exfalso; have oc_5 := zk_eq (by decide +kernel : (0 : Int32).toInt = 0) (by decide +kernel : (1 : Int32).toInt = 1) c_5; omega)
              have oc_5 := zk_ne (by decide +kernel : (0 : Int32).toInt = 0) (by decide +kernel : (1 : Int32).toInt = 1) c_5
              refine lv_aload_n hx hb dX10_advance_239 rfl (lv_at hl 4 rfl) ?_
              refine va_get (D := (dC, dI)) (ci := 10) (v := .int 0) (C := RX10) (T := TX10) (N := 8) hx hb hts zn_X10_advance_X10 hown hK hP 0 rfl rfl 4 (by decide) (hts (.fieldLink RX10 46 "ShortEnough$Words" "kind" "I") zw_X10_advance_264) (fun _ h9 => h9) rfl dX10_advance_240 ?_
              refine lv_iconst (v := 2) hx hb dX10_advance_243 (by decide +kernel) ?_
              refine lv_icmp_ne (tgt := 258) hx hb dX10_advance_244 (by decide) (fun c_6 => ?_) (fun c_6 => by exfalso; have oc_6 := zk_eq (by decide +kernel : (0 : Int32).toInt = 0) (by decide +kernel : (2 : Int32).toInt = 2) c_6; omega)
              have oc_6 := zk_ne (by decide +kernel : (0 : Int32).toInt = 0) (by decide +kernel : (2 : Int32).toInt = 2) c_6
              refine lv_aload_n hx hb dX10_advance_258 rfl (lv_at hl 4 rfl) ?_
              refine lv_aload_n hx hb dX10_advance_259 rfl (lv_at hl 4 rfl) ?_
              refine va_get (D := (dC, dI)) (ci := 10) (v := .int 0) (C := RX10) (T := TX10) (N := 8) hx hb hts zn_X10_advance_X10 hown hK hP 0 rfl rfl 4 (by decide) (hts (.fieldLink RX10 46 "ShortEnough$Words" "kind" "I") zw_X10_advance_264) (fun _ h9 => h9) rfl dX10_advance_260 ?_
              refine lv_iconst (v := 1) hx hb dX10_advance_263 (by decide +kernel) ?_
              refine lv_icmp_ne (tgt := 278) hx hb dX10_advance_264 (by decide) (fun c_7 => ?_) (fun c_7 => by exfalso; have oc_7 := zk_eq (by decide +kernel : (0 : Int32).toInt = 0) (by decide +kernel : (1 : Int32).toInt = 1) c_7; omega)
              have oc_7 := zk_ne (by decide +kernel : (0 : Int32).toInt = 0) (by decide +kernel : (1 : Int32).toInt = 1) c_7
              refine lv_iconst (v := (-1)) hx hb dX10_advance_278 (by decide +kernel) ?_
              refine va_put (D := (dC, dI)) (ci := 10) (v := .int (-1)) (ty := .int) (C := RX10) (T := TX10) (N := 8) hx hb hts zn_X10_advance_X10 tyX10 tyX10_ok nmX10 hown hK hP hD hS 0 rfl rfl 7 (by decide) (hts (.fieldLink RX10 70 "ShortEnough$Words" "own" "I") zw_X10_advance_269) (fun _ h9 => h9) rfl (by decide +kernel) rfl rfl (Nat.le_of_ble_eq_true rfl) dX10_advance_279 (fun H locs hP hD hS => ?_)
              have hP : va_P (dC, dI) vwCl [(h0, .inr (10, [.ref r0_0, .ref r0_1, .int v0_2, .int y27_h0_3, .int 0, .int y27_h0_3, .int 0, .int (-1)])), (r0_1, .inl (k1, 1200, .inl f1)), (r0_0, .inl (k2, 13, .inl f2))] H := hP
              have hD : va_D A [(h0, .inr (10, [.ref r0_0, .ref r0_1, .int v0_2, .int y27_h0_3, .int 0, .int y27_h0_3, .int 0, .int (-1)])), (r0_1, .inl (k1, 1200, .inl f1)), (r0_0, .inl (k2, 13, .inl f2))] := hD
              have hP9 := hP.sub (ws' := [(h0, .inr (10, [.ref r0_0, .ref r0_1, .int v0_2, .int y27_h0_3, .int 0, .int y27_h0_3, .int 0, .int (-1)])), (r0_1, .inl (k1, 1200, .inl f1)), (r0_0, .inl (k2, 13, .inl f2))]) [0, 1, 2] rfl
              have hD9 := hD.sub (ws' := [(h0, .inr (10, [.ref r0_0, .ref r0_1, .int v0_2, .int y27_h0_3, .int 0, .int y27_h0_3, .int 0, .int (-1)])), (r0_1, .inl (k1, 1200, .inl f1)), (r0_0, .inl (k2, 13, .inl f2))]) [0, 1, 2] (by decide) rfl
              have hK9 := hK.sub (tys' := [(k1, .byte), (k2, .int)]) [0, 1] rfl
              rw [← hQ]
              exact W.vret hx hb hr (fun t ht hW => ⟨⟨((fun k => ([y27_h0_3, 0, y27_h0_3, 0, (-1)] : List Int32).getD k 0), (fun k => ([] : List (Nat → Int32)).getD k (fun _ => 0)), (fun k => ([] : List (Nat → Int64)).getD k (fun _ => 0))), rfl, ⟨(show (0 : Int) ≤ (y27_h0_3 : Int32).toInt ∧ (y27_h0_3 : Int32).toInt ≤ 1200 by omega), (show (0 : Int) ≤ (0 : Int32).toInt ∧ (0 : Int32).toInt ≤ 5 by decide +kernel), (show (0 : Int) ≤ (y27_h0_3 : Int32).toInt ∧ (y27_h0_3 : Int32).toInt ≤ 1200 by omega), (show (-1 : Int) ≤ ((-1) : Int32).toInt ∧ ((-1) : Int32).toInt ≤ 12 by decide +kernel), trivial⟩, by rw [ht]; exact hP9, va_K.moved hW.alike hK9, hD9⟩, hS.F ht⟩) hS.2.2 dX10_advance_282
            refine lv_icmp_ne (tgt := 217) hx hb dX10_advance_194 (by decide) (fun c_8 => ?_) (fun c_8 => ?_)
            · have oc_8 := zk_ne rfl rfl c_8
              exact jp217_419   H locs ls  hP hD hS (lv_sub hl [0, 1, 2, 3] rfl)
            have oc_8 := zk_eq rfl rfl c_8
            refine lv_aload_n hx hb dX10_advance_197 rfl (lv_at hl 3 rfl) ?_
            refine va_get (D := (dC, dI)) (ci := 10) (v := .int 0) (C := RX10) (T := TX10) (N := 8) hx hb hts zn_X10_advance_X10 hown hK hP 0 rfl rfl 4 (by decide) (hts (.fieldLink RX10 46 "ShortEnough$Words" "kind" "I") zw_X10_advance_264) (fun _ h9 => h9) rfl dX10_advance_198 ?_
            refine lv_iconst (v := 1) hx hb dX10_advance_201 (by decide +kernel) ?_
            refine lv_icmp_eq (tgt := 213) hx hb dX10_advance_202 (by decide) (fun c_9 => by exfalso; have oc_9 := zk_eq (by decide +kernel : (0 : Int32).toInt = 0) (by decide +kernel : (1 : Int32).toInt = 1) c_9; omega) (fun c_9 => ?_)
            have oc_9 := zk_ne (by decide +kernel : (0 : Int32).toInt = 0) (by decide +kernel : (1 : Int32).toInt = 1) c_9
            refine lv_aload_n hx hb dX10_advance_205 rfl (lv_at hl 3 rfl) ?_
            refine va_get (D := (dC, dI)) (ci := 10) (v := .int 0) (C := RX10) (T := TX10) (N := 8) hx hb hts zn_X10_advance_X10 hown hK hP 0 rfl rfl 4 (by decide) (hts (.fieldLink RX10 46 "ShortEnough$Words" "kind" "I") zw_X10_advance_264) (fun _ h9 => h9) rfl dX10_advance_206 ?_
            refine lv_iconst (v := 2) hx hb dX10_advance_209 (by decide +kernel) ?_
            refine lv_icmp_ne (tgt := 217) hx hb dX10_advance_210 (by decide) (fun c_10 => ?_) (fun c_10 => by exfalso; have oc_10 := zk_eq (by decide +kernel : (0 : Int32).toInt = 0) (by decide +kernel : (2 : Int32).toInt = 2) c_10; omega)
            have oc_10 := zk_ne (by decide +kernel : (0 : Int32).toInt = 0) (by decide +kernel : (2 : Int32).toInt = 2) c_10
            exact jp217_419   H locs ls  hP hD hS (lv_sub hl [0, 1, 2, 3] rfl)
          have oc_1 := zk_nle rfl rfl c_1
          refine lv_aload_n hx hb dX10_advance_87 rfl (lv_at hl 2 rfl) ?_
          refine va_get (D := (dC, dI)) (ci := 10) (v := .ref r0_1) (C := RX10) (T := TX10) (N := 8) hx hb hts zn_X10_advance_X10 hown hK hP 0 rfl rfl 1 (by decide) (hts (.fieldLink RX10 15 "ShortEnough$Words" "text" "[B") zw_X10_advance_266) (fun _ h9 => h9) rfl dX10_advance_88 ?_
          refine lv_aload_n hx hb dX10_advance_91 rfl (lv_at hl 2 rfl) ?_
          refine va_get (D := (dC, dI)) (ci := 10) (v := .int y27_h0_3) (C := RX10) (T := TX10) (N := 8) hx hb hts zn_X10_advance_X10 hown hK hP 0 rfl rfl 3 (by decide) (hts (.fieldLink RX10 43 "ShortEnough$Words" "place" "I") zw_X10_advance_263) (fun _ h9 => h9) rfl dX10_advance_92 ?_
          refine va_bald hx hb hK hP 1 0 rfl rfl (vp_in_iff.mpr ⟨by omega, by omega⟩) dX10_advance_95 ?_
          refine lv_topi (fun x_11 ex_11 => ?_)
          have hPc := hP.sub (ws' := []) [] rfl
          have hDc := hD.sub (ws' := []) [] (by decide) rfl
          have hKc := hK.sub (tys' := []) [] rfl
          have hFc := va_free (wc := []) hD hS hA [] rfl
          refine va_calli (va_runS (As := [.int x_11]) (rest := [.ref h0]) ⟨hx, hb, hml, hown, hts⟩ (zs_X10_kindOf l dC dI x_11  H.size) (va_cwS 1 hts gX10_advance_X10_kindOf rfl rfl rfl (by decide +kernel) ⟨Nat.le_of_ble_eq_true rfl, Nat.le_of_ble_eq_true rfl⟩) ⟨fun a U g mk q => by obtain ⟨q0, q1, qP, qK, qD⟩ := q; exact ⟨q0, q1, qP, va_K.moved (u := U) (U := U.calling g mk a) (Vm.Alike.refl U.vm) qK, qD⟩, fun U hU hW => ⟨rfl, by rw [hU], by rw [hU]; exact hPc, va_K.moved hW.alike hKc, hDc.weaken (fun _ _ _ _ => trivial)⟩⟩ rfl rfl hl.1 rfl (lv_room (Nat.le_of_ble_eq_true rfl)) dX10_advance_96 ⟨Nat.le_of_ble_eq_true rfl, Nat.le_of_ble_eq_true rfl⟩) hS (fun q _ h => hFc q h) hFc (fun r_12 u_13 t H1 locs ht hvm hw_14 hB hz1 hk1 hS => ?_)
          obtain ⟨hP1, hK1, hD1⟩ := hB
          rw [ht] at hP1
          have hK1 := va_K.moved hvm.symm hK1
          obtain ⟨hP, hD⟩ := va_join (wr := [(h0, .inr (10, [.ref r0_0, .ref r0_1, .int v0_2, .int y27_h0_3, .int v0_4, .int y27_h0_3, .int v0_6, .int v0_7])), (r0_1, .inl (k1, 1200, .inl f1)), (r0_0, .inl (k2, 13, .inl f2))]) (w1 := []) hP hD [] [0, 1, 2] rfl rfl (by decide) (by decide) hk1 hFc hP1 hD1
          have hK := hK
          generalize H1 = H at hP hS ⊢
          have hP := hP.sub (ws' := [(h0, .inr (10, [.ref r0_0, .ref r0_1, .int v0_2, .int y27_h0_3, .int v0_4, .int y27_h0_3, .int v0_6, .int v0_7])), (r0_1, .inl (k1, 1200, .inl f1)), (r0_0, .inl (k2, 13, .inl f2))]) [0, 1, 2] rfl
          have hD := hD.sub (ws' := [(h0, .inr (10, [.ref r0_0, .ref r0_1, .int v0_2, .int y27_h0_3, .int v0_4, .int y27_h0_3, .int v0_6, .int v0_7])), (r0_1, .inl (k1, 1200, .inl f1)), (r0_0, .inl (k2, 13, .inl f2))]) [0, 1, 2] (by decide) rfl
          have hP : va_P (dC, dI) vwCl [(h0, .inr (10, [.ref r0_0, .ref r0_1, .int v0_2, .int y27_h0_3, .int v0_4, .int y27_h0_3, .int v0_6, .int v0_7])), (r0_1, .inl (k1, 1200, .inl f1)), (r0_0, .inl (k2, 13, .inl f2))] H := hP
          have hD : va_D A [(h0, .inr (10, [.ref r0_0, .ref r0_1, .int v0_2, .int y27_h0_3, .int v0_4, .int y27_h0_3, .int v0_6, .int v0_7])), (r0_1, .inl (k1, 1200, .inl f1)), (r0_0, .inl (k2, 13, .inl f2))] := hD
          obtain ⟨hr_12, -⟩ := hw_14
          refine lv_goto (tgt := 103) hx hb dX10_advance_99 (by decide) ?_
          refine va_put (D := (dC, dI)) (ci := 10) (v := .int r_12) (ty := .int) (C := RX10) (T := TX10) (N := 8) hx hb hts zn_X10_advance_X10 tyX10 tyX10_ok nmX10 hown hK hP hD hS 0 rfl rfl 4 (by decide) (hts (.fieldLink RX10 46 "ShortEnough$Words" "kind" "I") zw_X10_advance_264) (fun _ h9 => h9) rfl (by decide +kernel) rfl rfl (Nat.le_of_ble_eq_true rfl) dX10_advance_103 (fun H locs hP hD hS => ?_)
          have hP : va_P (dC, dI) vwCl [(h0, .inr (10, [.ref r0_0, .ref r0_1, .int v0_2, .int y27_h0_3, .int r_12, .int y27_h0_3, .int v0_6, .int v0_7])), (r0_1, .inl (k1, 1200, .inl f1)), (r0_0, .inl (k2, 13, .inl f2))] H := hP
          have hD : va_D A [(h0, .inr (10, [.ref r0_0, .ref r0_1, .int v0_2, .int y27_h0_3, .int r_12, .int y27_h0_3, .int v0_6, .int v0_7])), (r0_1, .inl (k1, 1200, .inl f1)), (r0_0, .inl (k2, 13, .inl f2))] := hD
          refine lv_aload_n hx hb dX10_advance_106 rfl (lv_at hl 2 rfl) ?_
          refine lv_iconst (v := 0) hx hb dX10_advance_107 (by decide +kernel) ?_
          refine va_put (D := (dC, dI)) (ci := 10) (v := .int 0) (ty := .int) (C := RX10) (T := TX10) (N := 8) hx hb hts zn_X10_advance_X10 tyX10 tyX10_ok nmX10 hown hK hP hD hS 0 rfl rfl 6 (by decide) (hts (.fieldLink RX10 59 "ShortEnough$Words" "value" "I") zw_X10_advance_268) (fun _ h9 => h9) rfl (by decide +kernel) rfl rfl (Nat.le_of_ble_eq_true rfl) dX10_advance_108 (fun H locs hP hD hS => ?_)
          have hP : va_P (dC, dI) vwCl [(h0, .inr (10, [.ref r0_0, .ref r0_1, .int v0_2, .int y27_h0_3, .int r_12, .int y27_h0_3, .int 0, .int v0_7])), (r0_1, .inl (k1, 1200, .inl f1)), (r0_0, .inl (k2, 13, .inl f2))] H := hP
          have hD : va_D A [(h0, .inr (10, [.ref r0_0, .ref r0_1, .int v0_2, .int y27_h0_3, .int r_12, .int y27_h0_3, .int 0, .int v0_7])), (r0_1, .inl (k1, 1200, .inl f1)), (r0_0, .inl (k2, 13, .inl f2))] := hD
          refine lv_iconst (v := 0) hx hb dX10_advance_111 (by decide +kernel) ?_
          refine lv_istore_n (lv' := [(3, .int 0), (2, .int 1), (1, .int v0_3), (0, .ref h0)]) hx hb dX10_advance_112 rfl hl (by decide) rfl (fun ls hl => ?_)
          have lp113 : ∀ (n : Nat) (y113_3 : Int32) (y113_h0_3 : Int32) (y113_h0_6 : Int32) (H : Heap) (locs : List Loc) (ls : Array Slot), (0 : Int) ≤ y113_3.toInt + (0) → (0 : Int) ≤ y113_h0_3.toInt + (0) → (v0_3.toInt : Int) ≤ y113_h0_3.toInt + (0) → (y113_3.toInt : Int) ≤ 0 + (1200) → (y113_3.toInt : Int) ≤ v0_2.toInt + (0) → (y113_3.toInt : Int) ≤ y113_h0_3.toInt + (0) → (y113_h0_3.toInt : Int) ≤ 0 + (1200) → (y113_h0_3.toInt : Int) ≤ v0_2.toInt + (0) → (y113_h0_3.toInt : Int) ≤ y113_3.toInt + (1199) → (y27_h0_3.toInt : Int) ≤ y113_h0_3.toInt + (0) → 1201 - y113_3.toInt < n → va_P (dC, dI) vwCl [(h0, .inr (10, [.ref r0_0, .ref r0_1, .int v0_2, .int y113_h0_3, .int r_12, .int y27_h0_3, .int y113_h0_6, .int v0_7])), (r0_1, .inl (k1, 1200, .inl f1)), (r0_0, .inl (k2, 13, .inl f2))] H → va_D A [(h0, .inr (10, [.ref r0_0, .ref r0_1, .int v0_2, .int y113_h0_3, .int r_12, .int y27_h0_3, .int y113_h0_6, .int v0_7])), (r0_1, .inl (k1, 1200, .inl f1)), (r0_0, .inl (k2, 13, .inl f2))] → va_S A s.heap H locs → lv_has ls 5 [(3, .int y113_3), (2, .int 1), (1, .int v0_3), (0, .ref h0)] → W p l e (headSpec wsX10_advance ({ frames := 1, cells := 0, slots := 0, locals := 22 })).room s m ([.ref h0] : List Value).toArray below meth c H locs 0 0 Q (F0 m 113 ls []) := by
            intro n
            induction n with
            | zero =>
              intro y113_3 y113_h0_3 y113_h0_6 H locs ls hz113_0 hz113_1 hz113_2 hz113_3 hz113_4 hz113_5 hz113_6 hz113_7 hz113_8 hz113_9  hmeas hP hD hS hl
              exfalso; omega
            | succ n ih113 =>
              intro y113_3 y113_h0_3 y113_h0_6 H locs ls hz113_0 hz113_1 hz113_2 hz113_3 hz113_4 hz113_5 hz113_6 hz113_7 hz113_8 hz113_9  hmeas hP hD hS hl
              refine lv_aload_n hx hb dX10_advance_113 rfl (lv_at hl 3 rfl) ?_
              refine va_get (D := (dC, dI)) (ci := 10) (v := .int y113_h0_3) (C := RX10) (T := TX10) (N := 8) hx hb hts zn_X10_advance_X10 hown hK hP 0 rfl rfl 3 (by decide) (hts (.fieldLink RX10 43 "ShortEnough$Words" "place" "I") zw_X10_advance_263) (fun _ h9 => h9) rfl dX10_advance_114 ?_
              refine lv_aload_n hx hb dX10_advance_117 rfl (lv_at hl 3 rfl) ?_
              refine va_get (D := (dC, dI)) (ci := 10) (v := .int v0_2) (C := RX10) (T := TX10) (N := 8) hx hb hts zn_X10_advance_X10 hown hK hP 0 rfl rfl 2 (by decide) (hts (.fieldLink RX10 40 "ShortEnough$Words" "length" "I") zw_X10_advance_265) (fun _ h9 => h9) rfl dX10_advance_118 ?_
              have jp185_456 : ∀  (H : Heap) (locs : List Loc) (ls : Array Slot), va_P (dC, dI) vwCl [(h0, .inr (10, [.ref r0_0, .ref r0_1, .int v0_2, .int y113_h0_3, .int r_12, .int y27_h0_3, .int y113_h0_6, .int v0_7])), (r0_1, .inl (k1, 1200, .inl f1)), (r0_0, .inl (k2, 13, .inl f2))] H → va_D A [(h0, .inr (10, [.ref r0_0, .ref r0_1, .int v0_2, .int y113_h0_3, .int r_12, .int y27_h0_3, .int y113_h0_6, .int v0_7])), (r0_1, .inl (k1, 1200, .inl f1)), (r0_0, .inl (k2, 13, .inl f2))] → va_S A s.heap H locs → lv_has ls 5 [(3, .int y113_3), (2, .int 1), (1, .int v0_3), (0, .ref h0)] → W p l e (headSpec wsX10_advance ({ frames := 1, cells := 0, slots := 0, locals := 22 })).room s m ([.ref h0] : List Value).toArray below meth c H locs 0 0 Q (F0 m 185 ls []) := by
                intro H locs ls  hP hD hS hl
                refine lv_iload_n hx hb dX10_advance_185 rfl (lv_at hl 1 rfl) ?_
                refine lv_if_eq (tgt := 217) hx hb dX10_advance_186 (by decide) (fun c_15 => by exfalso; have oc_15 := zk_eq (by decide +kernel : (1 : Int32).toInt = 1) (by decide +kernel : (0 : Int32).toInt = 0) c_15; omega) (fun c_15 => ?_)
                have oc_15 := zk_ne (by decide +kernel : (1 : Int32).toInt = 1) (by decide +kernel : (0 : Int32).toInt = 0) c_15
                refine lv_aload_n hx hb dX10_advance_189 rfl (lv_at hl 3 rfl) ?_
                refine va_get (D := (dC, dI)) (ci := 10) (v := .int y27_h0_3) (C := RX10) (T := TX10) (N := 8) hx hb hts zn_X10_advance_X10 hown hK hP 0 rfl rfl 5 (by decide) (hts (.fieldLink RX10 56 "ShortEnough$Words" "start" "I") zw_X10_advance_267) (fun _ h9 => h9) rfl dX10_advance_190 ?_
                refine lv_iload_n hx hb dX10_advance_193 rfl (lv_at hl 2 rfl) ?_
                have jp217_458 : ∀  (H : Heap) (locs : List Loc) (ls : Array Slot), (v0_3.toInt : Int) ≤ r_12.toInt + (1197) → va_P (dC, dI) vwCl [(h0, .inr (10, [.ref r0_0, .ref r0_1, .int v0_2, .int y113_h0_3, .int r_12, .int y27_h0_3, .int y113_h0_6, .int v0_7])), (r0_1, .inl (k1, 1200, .inl f1)), (r0_0, .inl (k2, 13, .inl f2))] H → va_D A [(h0, .inr (10, [.ref r0_0, .ref r0_1, .int v0_2, .int y113_h0_3, .int r_12, .int y27_h0_3, .int y113_h0_6, .int v0_7])), (r0_1, .inl (k1, 1200, .inl f1)), (r0_0, .inl (k2, 13, .inl f2))] → va_S A s.heap H locs → lv_has ls 5 [(3, .int y113_3), (2, .int 1), (1, .int v0_3), (0, .ref h0)] → W p l e (headSpec wsX10_advance ({ frames := 1, cells := 0, slots := 0, locals := 22 })).room s m ([.ref h0] : List Value).toArray below meth c H locs 0 0 Q (F0 m 217 ls []) := by
                  intro H locs ls hj458_0  hP hD hS hl
                  refine lv_iconst (v := 0) hx hb dX10_advance_217 (by decide +kernel) ?_
                  refine lv_istore (lv' := [(4, .int 0), (3, .int y113_3), (2, .int 1), (1, .int v0_3), (0, .ref h0)]) hx hb dX10_advance_218 hl (by decide) rfl (fun ls hl => ?_)
                  refine lv_iload hx hb dX10_advance_220 (lv_at hl 0 rfl) ?_
                  refine lv_if_ne (tgt := 253) hx hb dX10_advance_222 (by decide) (fun c_16 => by exfalso; have oc_16 := zk_ne (by decide +kernel : (0 : Int32).toInt = 0) (by decide +kernel : (0 : Int32).toInt = 0) c_16; omega) (fun c_16 => ?_)
                  have oc_16 := zk_eq (by decide +kernel : (0 : Int32).toInt = 0) (by decide +kernel : (0 : Int32).toInt = 0) c_16
                  refine lv_aload_n hx hb dX10_advance_225 rfl (lv_at hl 4 rfl) ?_
                  refine va_get (D := (dC, dI)) (ci := 10) (v := .int r_12) (C := RX10) (T := TX10) (N := 8) hx hb hts zn_X10_advance_X10 hown hK hP 0 rfl rfl 4 (by decide) (hts (.fieldLink RX10 46 "ShortEnough$Words" "kind" "I") zw_X10_advance_264) (fun _ h9 => h9) rfl dX10_advance_226 ?_
                  refine lv_iconst (v := 1) hx hb dX10_advance_229 (by decide +kernel) ?_
                  have jp239_459 : ∀  (H : Heap) (locs : List Loc) (ls : Array Slot), (y113_3.toInt : Int) ≤ r_12.toInt + (1198) → va_P (dC, dI) vwCl [(h0, .inr (10, [.ref r0_0, .ref r0_1, .int v0_2, .int y113_h0_3, .int r_12, .int y27_h0_3, .int y113_h0_6, .int v0_7])), (r0_1, .inl (k1, 1200, .inl f1)), (r0_0, .inl (k2, 13, .inl f2))] H → va_D A [(h0, .inr (10, [.ref r0_0, .ref r0_1, .int v0_2, .int y113_h0_3, .int r_12, .int y27_h0_3, .int y113_h0_6, .int v0_7])), (r0_1, .inl (k1, 1200, .inl f1)), (r0_0, .inl (k2, 13, .inl f2))] → va_S A s.heap H locs → lv_has ls 5 [(4, .int 0), (3, .int y113_3), (2, .int 1), (1, .int v0_3), (0, .ref h0)] → W p l e (headSpec wsX10_advance ({ frames := 1, cells := 0, slots := 0, locals := 22 })).room s m ([.ref h0] : List Value).toArray below meth c H locs 0 0 Q (F0 m 239 ls []) := by
                    intro H locs ls hj459_0  hP hD hS hl
                    refine lv_aload_n hx hb dX10_advance_239 rfl (lv_at hl 4 rfl) ?_
                    refine va_get (D := (dC, dI)) (ci := 10) (v := .int r_12) (C := RX10) (T := TX10) (N := 8) hx hb hts zn_X10_advance_X10 hown hK hP 0 rfl rfl 4 (by decide) (hts (.fieldLink RX10 46 "ShortEnough$Words" "kind" "I") zw_X10_advance_264) (fun _ h9 => h9) rfl dX10_advance_240 ?_
                    refine lv_iconst (v := 2) hx hb dX10_advance_243 (by decide +kernel) ?_
                    refine lv_icmp_ne (tgt := 258) hx hb dX10_advance_244 (by decide) (fun c_17 => ?_) (fun c_17 => ?_)
                    · have oc_17 := zk_ne rfl (by decide +kernel : (2 : Int32).toInt = 2) c_17
                      refine lv_aload_n hx hb dX10_advance_258 rfl (lv_at hl 4 rfl) ?_
                      refine lv_aload_n hx hb dX10_advance_259 rfl (lv_at hl 4 rfl) ?_
                      refine va_get (D := (dC, dI)) (ci := 10) (v := .int r_12) (C := RX10) (T := TX10) (N := 8) hx hb hts zn_X10_advance_X10 hown hK hP 0 rfl rfl 4 (by decide) (hts (.fieldLink RX10 46 "ShortEnough$Words" "kind" "I") zw_X10_advance_264) (fun _ h9 => h9) rfl dX10_advance_260 ?_
                      refine lv_iconst (v := 1) hx hb dX10_advance_263 (by decide +kernel) ?_
                      refine lv_icmp_ne (tgt := 278) hx hb dX10_advance_264 (by decide) (fun c_18 => ?_) (fun c_18 => ?_)
                      · have oc_18 := zk_ne rfl (by decide +kernel : (1 : Int32).toInt = 1) c_18
                        refine lv_iconst (v := (-1)) hx hb dX10_advance_278 (by decide +kernel) ?_
                        refine va_put (D := (dC, dI)) (ci := 10) (v := .int (-1)) (ty := .int) (C := RX10) (T := TX10) (N := 8) hx hb hts zn_X10_advance_X10 tyX10 tyX10_ok nmX10 hown hK hP hD hS 0 rfl rfl 7 (by decide) (hts (.fieldLink RX10 70 "ShortEnough$Words" "own" "I") zw_X10_advance_269) (fun _ h9 => h9) rfl (by decide +kernel) rfl rfl (Nat.le_of_ble_eq_true rfl) dX10_advance_279 (fun H locs hP hD hS => ?_)
                        have hP : va_P (dC, dI) vwCl [(h0, .inr (10, [.ref r0_0, .ref r0_1, .int v0_2, .int y113_h0_3, .int r_12, .int y27_h0_3, .int y113_h0_6, .int (-1)])), (r0_1, .inl (k1, 1200, .inl f1)), (r0_0, .inl (k2, 13, .inl f2))] H := hP
                        have hD : va_D A [(h0, .inr (10, [.ref r0_0, .ref r0_1, .int v0_2, .int y113_h0_3, .int r_12, .int y27_h0_3, .int y113_h0_6, .int (-1)])), (r0_1, .inl (k1, 1200, .inl f1)), (r0_0, .inl (k2, 13, .inl f2))] := hD
                        have hP9 := hP.sub (ws' := [(h0, .inr (10, [.ref r0_0, .ref r0_1, .int v0_2, .int y113_h0_3, .int r_12, .int y27_h0_3, .int y113_h0_6, .int (-1)])), (r0_1, .inl (k1, 1200, .inl f1)), (r0_0, .inl (k2, 13, .inl f2))]) [0, 1, 2] rfl
                        have hD9 := hD.sub (ws' := [(h0, .inr (10, [.ref r0_0, .ref r0_1, .int v0_2, .int y113_h0_3, .int r_12, .int y27_h0_3, .int y113_h0_6, .int (-1)])), (r0_1, .inl (k1, 1200, .inl f1)), (r0_0, .inl (k2, 13, .inl f2))]) [0, 1, 2] (by decide) rfl
                        have hK9 := hK.sub (tys' := [(k1, .byte), (k2, .int)]) [0, 1] rfl
                        rw [← hQ]
                        exact W.vret hx hb hr (fun t ht hW => ⟨⟨((fun k => ([y113_h0_3, r_12, y27_h0_3, y113_h0_6, (-1)] : List Int32).getD k 0), (fun k => ([] : List (Nat → Int32)).getD k (fun _ => 0)), (fun k => ([] : List (Nat → Int64)).getD k (fun _ => 0))), rfl, ⟨(show (0 : Int) ≤ (y113_h0_3 : Int32).toInt ∧ (y113_h0_3 : Int32).toInt ≤ 1200 by omega), (show (0 : Int) ≤ (r_12 : Int32).toInt ∧ (r_12 : Int32).toInt ≤ 5 by omega), (show (0 : Int) ≤ (y27_h0_3 : Int32).toInt ∧ (y27_h0_3 : Int32).toInt ≤ 1200 by omega), (show (-1 : Int) ≤ ((-1) : Int32).toInt ∧ ((-1) : Int32).toInt ≤ 12 by decide +kernel), trivial⟩, by rw [ht]; exact hP9, va_K.moved hW.alike hK9, hD9⟩, hS.F ht⟩) hS.2.2 dX10_advance_282
                      have oc_18 := zk_eq rfl (by decide +kernel : (1 : Int32).toInt = 1) c_18
                      refine lv_aload_n hx hb dX10_advance_267 rfl (lv_at hl 4 rfl) ?_
                      refine lv_aload_n hx hb dX10_advance_268 rfl (lv_at hl 4 rfl) ?_
                      refine va_get (D := (dC, dI)) (ci := 10) (v := .int y113_h0_6) (C := RX10) (T := TX10) (N := 8) hx hb hts zn_X10_advance_X10 hown hK hP 0 rfl rfl 6 (by decide) (hts (.fieldLink RX10 59 "ShortEnough$Words" "value" "I") zw_X10_advance_268) (fun _ h9 => h9) rfl dX10_advance_269 ?_
                      have hPc := hP.sub (ws' := [(h0, .inr (10, [.ref r0_0, .ref r0_1, .int v0_2, .int y113_h0_3, .int r_12, .int y27_h0_3, .int y113_h0_6, .int v0_7])), (r0_0, .inl (k2, 13, .inl f2))]) [0, 2] rfl
                      have hDc := hD.sub (ws' := [(h0, .inr (10, [.ref r0_0, .ref r0_1, .int v0_2, .int y113_h0_3, .int r_12, .int y27_h0_3, .int y113_h0_6, .int v0_7])), (r0_0, .inl (k2, 13, .inl f2))]) [0, 2] (by decide) rfl
                      have hKc := hK.sub (tys' := [(k2, .int)]) [1] rfl
                      have hFc := va_free (wc := [(h0, .inr (10, [.ref r0_0, .ref r0_1, .int v0_2, .int y113_h0_3, .int r_12, .int y27_h0_3, .int y113_h0_6, .int v0_7])), (r0_0, .inl (k2, 13, .inl f2))]) hD hS hA [0, 2] rfl
                      refine va_calli (va_runV (As := [.int y113_h0_6]) (rest := [.ref h0]) ⟨hx, hb, hml, hown, hts⟩ (zs_X10_findOwn l dC dI h0 y113_h0_6 r0_0 r0_1 v0_2 y113_h0_3 r_12 y27_h0_3 y113_h0_6 v0_7 k2 f2 (by omega) (by omega) (by omega) (by omega) (by omega) H.size) (cwV 1 hts gX10_advance_X10_findOwn rfl rfl rfl (by decide +kernel) ⟨Nat.le_of_ble_eq_true rfl, Nat.le_of_ble_eq_true rfl⟩) ⟨fun a U g mk q => by obtain ⟨q0, q1, qP, qK, qD⟩ := q; exact ⟨q0, q1, qP, va_K.moved (u := U) (U := U.calling g mk a) (Vm.Alike.refl U.vm) qK, qD⟩, va_recv hKc hPc (ci := 10) (q0 := 0) rfl rfl, fun U hU hW => ⟨rfl, by rw [hU], by rw [hU]; exact hPc, va_K.moved hW.alike hKc, hDc.weaken (fun _ _ _ _ => trivial)⟩⟩ rfl rfl hl.1 rfl (lv_room (Nat.le_of_ble_eq_true rfl)) dX10_advance_272 ⟨Nat.le_of_ble_eq_true rfl, Nat.le_of_ble_eq_true rfl⟩) hS (fun q _ h => hFc q h) hFc (fun r_19 u_20 t H1 locs ht hvm hw_21 hB hz1 hk1 hS => ?_)
                      obtain ⟨hP1, hK1, hD1⟩ := hB
                      rw [ht] at hP1
                      have hK1 := va_K.moved hvm.symm hK1
                      obtain ⟨hP, hD⟩ := va_join (wr := [(r0_1, .inl (k1, 1200, .inl f1))]) (w1 := [(h0, .inr (10, [.ref r0_0, .ref r0_1, .int v0_2, .int y113_h0_3, .int r_12, .int y27_h0_3, .int y113_h0_6, .int v0_7])), (r0_0, .inl (k2, 13, .inl f2))]) hP hD [0, 2] [1] rfl rfl (by decide) (by decide) hk1 hFc hP1 hD1
                      have hK := hK
                      generalize H1 = H at hP hS ⊢
                      have hP := hP.sub (ws' := [(h0, .inr (10, [.ref r0_0, .ref r0_1, .int v0_2, .int y113_h0_3, .int r_12, .int y27_h0_3, .int y113_h0_6, .int v0_7])), (r0_1, .inl (k1, 1200, .inl f1)), (r0_0, .inl (k2, 13, .inl f2))]) [1, 0, 2] rfl
                      have hD := hD.sub (ws' := [(h0, .inr (10, [.ref r0_0, .ref r0_1, .int v0_2, .int y113_h0_3, .int r_12, .int y27_h0_3, .int y113_h0_6, .int v0_7])), (r0_1, .inl (k1, 1200, .inl f1)), (r0_0, .inl (k2, 13, .inl f2))]) [1, 0, 2] (by decide) rfl
                      have hP : va_P (dC, dI) vwCl [(h0, .inr (10, [.ref r0_0, .ref r0_1, .int v0_2, .int y113_h0_3, .int r_12, .int y27_h0_3, .int y113_h0_6, .int v0_7])), (r0_1, .inl (k1, 1200, .inl f1)), (r0_0, .inl (k2, 13, .inl f2))] H := hP
                      have hD : va_D A [(h0, .inr (10, [.ref r0_0, .ref r0_1, .int v0_2, .int y113_h0_3, .int r_12, .int y27_h0_3, .int y113_h0_6, .int v0_7])), (r0_1, .inl (k1, 1200, .inl f1)), (r0_0, .inl (k2, 13, .inl f2))] := hD
                      obtain ⟨hr_19, -⟩ := hw_21
                      refine lv_goto (tgt := 279) hx hb dX10_advance_275 (by decide) ?_
                      refine va_put (D := (dC, dI)) (ci := 10) (v := .int r_19) (ty := .int) (C := RX10) (T := TX10) (N := 8) hx hb hts zn_X10_advance_X10 tyX10 tyX10_ok nmX10 hown hK hP hD hS 0 rfl rfl 7 (by decide) (hts (.fieldLink RX10 70 "ShortEnough$Words" "own" "I") zw_X10_advance_269) (fun _ h9 => h9) rfl (by decide +kernel) rfl rfl (Nat.le_of_ble_eq_true rfl) dX10_advance_279 (fun H locs hP hD hS => ?_)
                      have hP : va_P (dC, dI) vwCl [(h0, .inr (10, [.ref r0_0, .ref r0_1, .int v0_2, .int y113_h0_3, .int r_12, .int y27_h0_3, .int y113_h0_6, .int r_19])), (r0_1, .inl (k1, 1200, .inl f1)), (r0_0, .inl (k2, 13, .inl f2))] H := hP
                      have hD : va_D A [(h0, .inr (10, [.ref r0_0, .ref r0_1, .int v0_2, .int y113_h0_3, .int r_12, .int y27_h0_3, .int y113_h0_6, .int r_19])), (r0_1, .inl (k1, 1200, .inl f1)), (r0_0, .inl (k2, 13, .inl f2))] := hD
                      have hP9 := hP.sub (ws' := [(h0, .inr (10, [.ref r0_0, .ref r0_1, .int v0_2, .int y113_h0_3, .int r_12, .int y27_h0_3, .int y113_h0_6, .int r_19])), (r0_1, .inl (k1, 1200, .inl f1)), (r0_0, .inl (k2, 13, .inl f2))]) [0, 1, 2] rfl
                      have hD9 := hD.sub (ws' := [(h0, .inr (10, [.ref r0_0, .ref r0_1, .int v0_2, .int y113_h0_3, .int r_12, .int y27_h0_3, .int y113_h0_6, .int r_19])), (r0_1, .inl (k1, 1200, .inl f1)), (r0_0, .inl (k2, 13, .inl f2))]) [0, 1, 2] (by decide) rfl
                      have hK9 := hK.sub (tys' := [(k1, .byte), (k2, .int)]) [0, 1] rfl
                      rw [← hQ]
                      exact W.vret hx hb hr (fun t ht hW => ⟨⟨((fun k => ([y113_h0_3, r_12, y27_h0_3, y113_h0_6, r_19] : List Int32).getD k 0), (fun k => ([] : List (Nat → Int32)).getD k (fun _ => 0)), (fun k => ([] : List (Nat → Int64)).getD k (fun _ => 0))), rfl, ⟨(show (0 : Int) ≤ (y113_h0_3 : Int32).toInt ∧ (y113_h0_3 : Int32).toInt ≤ 1200 by omega), (show (0 : Int) ≤ (r_12 : Int32).toInt ∧ (r_12 : Int32).toInt ≤ 5 by omega), (show (0 : Int) ≤ (y27_h0_3 : Int32).toInt ∧ (y27_h0_3 : Int32).toInt ≤ 1200 by omega), (show (-1 : Int) ≤ (r_19 : Int32).toInt ∧ (r_19 : Int32).toInt ≤ 12 by omega), trivial⟩, by rw [ht]; exact hP9, va_K.moved hW.alike hK9, hD9⟩, hS.F ht⟩) hS.2.2 dX10_advance_282
                    have oc_17 := zk_eq rfl (by decide +kernel : (2 : Int32).toInt = 2) c_17
                    refine lv_iload_n hx hb dX10_advance_247 rfl (lv_at hl 1 rfl) ?_
                    refine lv_bipush (v := 8) hx hb dX10_advance_248 (by decide +kernel) ?_
                    refine lv_icmp_le (tgt := 258) hx hb dX10_advance_250 (by decide) (fun c_22 => ?_) (fun c_22 => ?_)
                    · have oc_22 := zk_le rfl (by decide +kernel : (8 : Int32).toInt = 8) c_22
                      refine lv_aload_n hx hb dX10_advance_258 rfl (lv_at hl 4 rfl) ?_
                      refine lv_aload_n hx hb dX10_advance_259 rfl (lv_at hl 4 rfl) ?_
                      refine va_get (D := (dC, dI)) (ci := 10) (v := .int r_12) (C := RX10) (T := TX10) (N := 8) hx hb hts zn_X10_advance_X10 hown hK hP 0 rfl rfl 4 (by decide) (hts (.fieldLink RX10 46 "ShortEnough$Words" "kind" "I") zw_X10_advance_264) (fun _ h9 => h9) rfl dX10_advance_260 ?_
                      refine lv_iconst (v := 1) hx hb dX10_advance_263 (by decide +kernel) ?_
                      refine lv_icmp_ne (tgt := 278) hx hb dX10_advance_264 (by decide) (fun c_23 => ?_) (fun c_23 => by exfalso; have oc_23 := zk_eq rfl (by decide +kernel : (1 : Int32).toInt = 1) c_23; omega)
                      have oc_23 := zk_ne rfl (by decide +kernel : (1 : Int32).toInt = 1) c_23
                      refine lv_iconst (v := (-1)) hx hb dX10_advance_278 (by decide +kernel) ?_
                      refine va_put (D := (dC, dI)) (ci := 10) (v := .int (-1)) (ty := .int) (C := RX10) (T := TX10) (N := 8) hx hb hts zn_X10_advance_X10 tyX10 tyX10_ok nmX10 hown hK hP hD hS 0 rfl rfl 7 (by decide) (hts (.fieldLink RX10 70 "ShortEnough$Words" "own" "I") zw_X10_advance_269) (fun _ h9 => h9) rfl (by decide +kernel) rfl rfl (Nat.le_of_ble_eq_true rfl) dX10_advance_279 (fun H locs hP hD hS => ?_)
                      have hP : va_P (dC, dI) vwCl [(h0, .inr (10, [.ref r0_0, .ref r0_1, .int v0_2, .int y113_h0_3, .int r_12, .int y27_h0_3, .int y113_h0_6, .int (-1)])), (r0_1, .inl (k1, 1200, .inl f1)), (r0_0, .inl (k2, 13, .inl f2))] H := hP
                      have hD : va_D A [(h0, .inr (10, [.ref r0_0, .ref r0_1, .int v0_2, .int y113_h0_3, .int r_12, .int y27_h0_3, .int y113_h0_6, .int (-1)])), (r0_1, .inl (k1, 1200, .inl f1)), (r0_0, .inl (k2, 13, .inl f2))] := hD
                      have hP9 := hP.sub (ws' := [(h0, .inr (10, [.ref r0_0, .ref r0_1, .int v0_2, .int y113_h0_3, .int r_12, .int y27_h0_3, .int y113_h0_6, .int (-1)])), (r0_1, .inl (k1, 1200, .inl f1)), (r0_0, .inl (k2, 13, .inl f2))]) [0, 1, 2] rfl
                      have hD9 := hD.sub (ws' := [(h0, .inr (10, [.ref r0_0, .ref r0_1, .int v0_2, .int y113_h0_3, .int r_12, .int y27_h0_3, .int y113_h0_6, .int (-1)])), (r0_1, .inl (k1, 1200, .inl f1)), (r0_0, .inl (k2, 13, .inl f2))]) [0, 1, 2] (by decide) rfl
                      have hK9 := hK.sub (tys' := [(k1, .byte), (k2, .int)]) [0, 1] rfl
                      rw [← hQ]
                      exact W.vret hx hb hr (fun t ht hW => ⟨⟨((fun k => ([y113_h0_3, r_12, y27_h0_3, y113_h0_6, (-1)] : List Int32).getD k 0), (fun k => ([] : List (Nat → Int32)).getD k (fun _ => 0)), (fun k => ([] : List (Nat → Int64)).getD k (fun _ => 0))), rfl, ⟨(show (0 : Int) ≤ (y113_h0_3 : Int32).toInt ∧ (y113_h0_3 : Int32).toInt ≤ 1200 by omega), (show (0 : Int) ≤ (r_12 : Int32).toInt ∧ (r_12 : Int32).toInt ≤ 5 by omega), (show (0 : Int) ≤ (y27_h0_3 : Int32).toInt ∧ (y27_h0_3 : Int32).toInt ≤ 1200 by omega), (show (-1 : Int) ≤ ((-1) : Int32).toInt ∧ ((-1) : Int32).toInt ≤ 12 by decide +kernel), trivial⟩, by rw [ht]; exact hP9, va_K.moved hW.alike hK9, hD9⟩, hS.F ht⟩) hS.2.2 dX10_advance_282
                    have oc_22 := zk_nle rfl (by decide +kernel : (8 : Int32).toInt = 8) c_22
                    refine lv_aload_n hx hb dX10_advance_253 rfl (lv_at hl 4 rfl) ?_
                    refine lv_iconst (v := 4) hx hb dX10_advance_254 (by decide +kernel) ?_
                    refine va_put (D := (dC, dI)) (ci := 10) (v := .int 4) (ty := .int) (C := RX10) (T := TX10) (N := 8) hx hb hts zn_X10_advance_X10 tyX10 tyX10_ok nmX10 hown hK hP hD hS 0 rfl rfl 4 (by decide) (hts (.fieldLink RX10 46 "ShortEnough$Words" "kind" "I") zw_X10_advance_264) (fun _ h9 => h9) rfl (by decide +kernel) rfl rfl (Nat.le_of_ble_eq_true rfl) dX10_advance_255 (fun H locs hP hD hS => ?_)
                    have hP : va_P (dC, dI) vwCl [(h0, .inr (10, [.ref r0_0, .ref r0_1, .int v0_2, .int y113_h0_3, .int 4, .int y27_h0_3, .int y113_h0_6, .int v0_7])), (r0_1, .inl (k1, 1200, .inl f1)), (r0_0, .inl (k2, 13, .inl f2))] H := hP
                    have hD : va_D A [(h0, .inr (10, [.ref r0_0, .ref r0_1, .int v0_2, .int y113_h0_3, .int 4, .int y27_h0_3, .int y113_h0_6, .int v0_7])), (r0_1, .inl (k1, 1200, .inl f1)), (r0_0, .inl (k2, 13, .inl f2))] := hD
                    refine lv_aload_n hx hb dX10_advance_258 rfl (lv_at hl 4 rfl) ?_
                    refine lv_aload_n hx hb dX10_advance_259 rfl (lv_at hl 4 rfl) ?_
                    refine va_get (D := (dC, dI)) (ci := 10) (v := .int 4) (C := RX10) (T := TX10) (N := 8) hx hb hts zn_X10_advance_X10 hown hK hP 0 rfl rfl 4 (by decide) (hts (.fieldLink RX10 46 "ShortEnough$Words" "kind" "I") zw_X10_advance_264) (fun _ h9 => h9) rfl dX10_advance_260 ?_
                    refine lv_iconst (v := 1) hx hb dX10_advance_263 (by decide +kernel) ?_
                    refine lv_icmp_ne (tgt := 278) hx hb dX10_advance_264 (by decide) (fun c_24 => ?_) (fun c_24 => by exfalso; have oc_24 := zk_eq (by decide +kernel : (4 : Int32).toInt = 4) (by decide +kernel : (1 : Int32).toInt = 1) c_24; omega)
                    have oc_24 := zk_ne (by decide +kernel : (4 : Int32).toInt = 4) (by decide +kernel : (1 : Int32).toInt = 1) c_24
                    refine lv_iconst (v := (-1)) hx hb dX10_advance_278 (by decide +kernel) ?_
                    refine va_put (D := (dC, dI)) (ci := 10) (v := .int (-1)) (ty := .int) (C := RX10) (T := TX10) (N := 8) hx hb hts zn_X10_advance_X10 tyX10 tyX10_ok nmX10 hown hK hP hD hS 0 rfl rfl 7 (by decide) (hts (.fieldLink RX10 70 "ShortEnough$Words" "own" "I") zw_X10_advance_269) (fun _ h9 => h9) rfl (by decide +kernel) rfl rfl (Nat.le_of_ble_eq_true rfl) dX10_advance_279 (fun H locs hP hD hS => ?_)
                    have hP : va_P (dC, dI) vwCl [(h0, .inr (10, [.ref r0_0, .ref r0_1, .int v0_2, .int y113_h0_3, .int 4, .int y27_h0_3, .int y113_h0_6, .int (-1)])), (r0_1, .inl (k1, 1200, .inl f1)), (r0_0, .inl (k2, 13, .inl f2))] H := hP
                    have hD : va_D A [(h0, .inr (10, [.ref r0_0, .ref r0_1, .int v0_2, .int y113_h0_3, .int 4, .int y27_h0_3, .int y113_h0_6, .int (-1)])), (r0_1, .inl (k1, 1200, .inl f1)), (r0_0, .inl (k2, 13, .inl f2))] := hD
                    have hP9 := hP.sub (ws' := [(h0, .inr (10, [.ref r0_0, .ref r0_1, .int v0_2, .int y113_h0_3, .int 4, .int y27_h0_3, .int y113_h0_6, .int (-1)])), (r0_1, .inl (k1, 1200, .inl f1)), (r0_0, .inl (k2, 13, .inl f2))]) [0, 1, 2] rfl
                    have hD9 := hD.sub (ws' := [(h0, .inr (10, [.ref r0_0, .ref r0_1, .int v0_2, .int y113_h0_3, .int 4, .int y27_h0_3, .int y113_h0_6, .int (-1)])), (r0_1, .inl (k1, 1200, .inl f1)), (r0_0, .inl (k2, 13, .inl f2))]) [0, 1, 2] (by decide) rfl
                    have hK9 := hK.sub (tys' := [(k1, .byte), (k2, .int)]) [0, 1] rfl
                    rw [← hQ]
                    exact W.vret hx hb hr (fun t ht hW => ⟨⟨((fun k => ([y113_h0_3, 4, y27_h0_3, y113_h0_6, (-1)] : List Int32).getD k 0), (fun k => ([] : List (Nat → Int32)).getD k (fun _ => 0)), (fun k => ([] : List (Nat → Int64)).getD k (fun _ => 0))), rfl, ⟨(show (0 : Int) ≤ (y113_h0_3 : Int32).toInt ∧ (y113_h0_3 : Int32).toInt ≤ 1200 by omega), (show (0 : Int) ≤ (4 : Int32).toInt ∧ (4 : Int32).toInt ≤ 5 by decide +kernel), (show (0 : Int) ≤ (y27_h0_3 : Int32).toInt ∧ (y27_h0_3 : Int32).toInt ≤ 1200 by omega), (show (-1 : Int) ≤ ((-1) : Int32).toInt ∧ ((-1) : Int32).toInt ≤ 12 by decide +kernel), trivial⟩, by rw [ht]; exact hP9, va_K.moved hW.alike hK9, hD9⟩, hS.F ht⟩) hS.2.2 dX10_advance_282
                  refine lv_icmp_ne (tgt := 239) hx hb dX10_advance_230 (by decide) (fun c_25 => ?_) (fun c_25 => ?_)
                  · have oc_25 := zk_ne rfl (by decide +kernel : (1 : Int32).toInt = 1) c_25
                    exact jp239_459   H locs ls (by omega)  hP hD hS (lv_sub hl [0, 1, 2, 3, 4] rfl)
                  have oc_25 := zk_eq rfl (by decide +kernel : (1 : Int32).toInt = 1) c_25
                  refine lv_iload_n hx hb dX10_advance_233 rfl (lv_at hl 1 rfl) ?_
                  refine lv_bipush (v := 6) hx hb dX10_advance_234 (by decide +kernel) ?_
                  refine lv_icmp_gt (tgt := 253) hx hb dX10_advance_236 (by decide) (fun c_26 => ?_) (fun c_26 => ?_)
                  · have oc_26 := zk_lt (by decide +kernel : (6 : Int32).toInt = 6) rfl c_26
                    refine lv_aload_n hx hb dX10_advance_253 rfl (lv_at hl 4 rfl) ?_
                    refine lv_iconst (v := 4) hx hb dX10_advance_254 (by decide +kernel) ?_
                    refine va_put (D := (dC, dI)) (ci := 10) (v := .int 4) (ty := .int) (C := RX10) (T := TX10) (N := 8) hx hb hts zn_X10_advance_X10 tyX10 tyX10_ok nmX10 hown hK hP hD hS 0 rfl rfl 4 (by decide) (hts (.fieldLink RX10 46 "ShortEnough$Words" "kind" "I") zw_X10_advance_264) (fun _ h9 => h9) rfl (by decide +kernel) rfl rfl (Nat.le_of_ble_eq_true rfl) dX10_advance_255 (fun H locs hP hD hS => ?_)
                    have hP : va_P (dC, dI) vwCl [(h0, .inr (10, [.ref r0_0, .ref r0_1, .int v0_2, .int y113_h0_3, .int 4, .int y27_h0_3, .int y113_h0_6, .int v0_7])), (r0_1, .inl (k1, 1200, .inl f1)), (r0_0, .inl (k2, 13, .inl f2))] H := hP
                    have hD : va_D A [(h0, .inr (10, [.ref r0_0, .ref r0_1, .int v0_2, .int y113_h0_3, .int 4, .int y27_h0_3, .int y113_h0_6, .int v0_7])), (r0_1, .inl (k1, 1200, .inl f1)), (r0_0, .inl (k2, 13, .inl f2))] := hD
                    refine lv_aload_n hx hb dX10_advance_258 rfl (lv_at hl 4 rfl) ?_
                    refine lv_aload_n hx hb dX10_advance_259 rfl (lv_at hl 4 rfl) ?_
                    refine va_get (D := (dC, dI)) (ci := 10) (v := .int 4) (C := RX10) (T := TX10) (N := 8) hx hb hts zn_X10_advance_X10 hown hK hP 0 rfl rfl 4 (by decide) (hts (.fieldLink RX10 46 "ShortEnough$Words" "kind" "I") zw_X10_advance_264) (fun _ h9 => h9) rfl dX10_advance_260 ?_
                    refine lv_iconst (v := 1) hx hb dX10_advance_263 (by decide +kernel) ?_
                    refine lv_icmp_ne (tgt := 278) hx hb dX10_advance_264 (by decide) (fun c_27 => ?_) (fun c_27 => by exfalso; have oc_27 := zk_eq (by decide +kernel : (4 : Int32).toInt = 4) (by decide +kernel : (1 : Int32).toInt = 1) c_27; omega)
                    have oc_27 := zk_ne (by decide +kernel : (4 : Int32).toInt = 4) (by decide +kernel : (1 : Int32).toInt = 1) c_27
                    refine lv_iconst (v := (-1)) hx hb dX10_advance_278 (by decide +kernel) ?_
                    refine va_put (D := (dC, dI)) (ci := 10) (v := .int (-1)) (ty := .int) (C := RX10) (T := TX10) (N := 8) hx hb hts zn_X10_advance_X10 tyX10 tyX10_ok nmX10 hown hK hP hD hS 0 rfl rfl 7 (by decide) (hts (.fieldLink RX10 70 "ShortEnough$Words" "own" "I") zw_X10_advance_269) (fun _ h9 => h9) rfl (by decide +kernel) rfl rfl (Nat.le_of_ble_eq_true rfl) dX10_advance_279 (fun H locs hP hD hS => ?_)
                    have hP : va_P (dC, dI) vwCl [(h0, .inr (10, [.ref r0_0, .ref r0_1, .int v0_2, .int y113_h0_3, .int 4, .int y27_h0_3, .int y113_h0_6, .int (-1)])), (r0_1, .inl (k1, 1200, .inl f1)), (r0_0, .inl (k2, 13, .inl f2))] H := hP
                    have hD : va_D A [(h0, .inr (10, [.ref r0_0, .ref r0_1, .int v0_2, .int y113_h0_3, .int 4, .int y27_h0_3, .int y113_h0_6, .int (-1)])), (r0_1, .inl (k1, 1200, .inl f1)), (r0_0, .inl (k2, 13, .inl f2))] := hD
                    have hP9 := hP.sub (ws' := [(h0, .inr (10, [.ref r0_0, .ref r0_1, .int v0_2, .int y113_h0_3, .int 4, .int y27_h0_3, .int y113_h0_6, .int (-1)])), (r0_1, .inl (k1, 1200, .inl f1)), (r0_0, .inl (k2, 13, .inl f2))]) [0, 1, 2] rfl
                    have hD9 := hD.sub (ws' := [(h0, .inr (10, [.ref r0_0, .ref r0_1, .int v0_2, .int y113_h0_3, .int 4, .int y27_h0_3, .int y113_h0_6, .int (-1)])), (r0_1, .inl (k1, 1200, .inl f1)), (r0_0, .inl (k2, 13, .inl f2))]) [0, 1, 2] (by decide) rfl
                    have hK9 := hK.sub (tys' := [(k1, .byte), (k2, .int)]) [0, 1] rfl
                    rw [← hQ]
                    exact W.vret hx hb hr (fun t ht hW => ⟨⟨((fun k => ([y113_h0_3, 4, y27_h0_3, y113_h0_6, (-1)] : List Int32).getD k 0), (fun k => ([] : List (Nat → Int32)).getD k (fun _ => 0)), (fun k => ([] : List (Nat → Int64)).getD k (fun _ => 0))), rfl, ⟨(show (0 : Int) ≤ (y113_h0_3 : Int32).toInt ∧ (y113_h0_3 : Int32).toInt ≤ 1200 by omega), (show (0 : Int) ≤ (4 : Int32).toInt ∧ (4 : Int32).toInt ≤ 5 by decide +kernel), (show (0 : Int) ≤ (y27_h0_3 : Int32).toInt ∧ (y27_h0_3 : Int32).toInt ≤ 1200 by omega), (show (-1 : Int) ≤ ((-1) : Int32).toInt ∧ ((-1) : Int32).toInt ≤ 12 by decide +kernel), trivial⟩, by rw [ht]; exact hP9, va_K.moved hW.alike hK9, hD9⟩, hS.F ht⟩) hS.2.2 dX10_advance_282
                  have oc_26 := zk_nlt (by decide +kernel : (6 : Int32).toInt = 6) rfl c_26
                  exact jp239_459   H locs ls (by omega)  hP hD hS (lv_sub hl [0, 1, 2, 3, 4] rfl)
                refine lv_icmp_ne (tgt := 217) hx hb dX10_advance_194 (by decide) (fun c_28 => ?_) (fun c_28 => ?_)
                · have oc_28 := zk_ne rfl rfl c_28
                  exact jp217_458   H locs ls (by omega)  hP hD hS (lv_sub hl [0, 1, 2, 3] rfl)
                have oc_28 := zk_eq rfl rfl c_28
                refine lv_aload_n hx hb dX10_advance_197 rfl (lv_at hl 3 rfl) ?_
                refine va_get (D := (dC, dI)) (ci := 10) (v := .int r_12) (C := RX10) (T := TX10) (N := 8) hx hb hts zn_X10_advance_X10 hown hK hP 0 rfl rfl 4 (by decide) (hts (.fieldLink RX10 46 "ShortEnough$Words" "kind" "I") zw_X10_advance_264) (fun _ h9 => h9) rfl dX10_advance_198 ?_
                refine lv_iconst (v := 1) hx hb dX10_advance_201 (by decide +kernel) ?_
                have jp213_460 : ∀  (H : Heap) (locs : List Loc) (ls : Array Slot), (r_12.toInt : Int) ≤ 0 + (2) → va_P (dC, dI) vwCl [(h0, .inr (10, [.ref r0_0, .ref r0_1, .int v0_2, .int y113_h0_3, .int r_12, .int y27_h0_3, .int y113_h0_6, .int v0_7])), (r0_1, .inl (k1, 1200, .inl f1)), (r0_0, .inl (k2, 13, .inl f2))] H → va_D A [(h0, .inr (10, [.ref r0_0, .ref r0_1, .int v0_2, .int y113_h0_3, .int r_12, .int y27_h0_3, .int y113_h0_6, .int v0_7])), (r0_1, .inl (k1, 1200, .inl f1)), (r0_0, .inl (k2, 13, .inl f2))] → va_S A s.heap H locs → lv_has ls 5 [(3, .int y113_3), (2, .int 1), (1, .int v0_3), (0, .ref h0)] → W p l e (headSpec wsX10_advance ({ frames := 1, cells := 0, slots := 0, locals := 22 })).room s m ([.ref h0] : List Value).toArray below meth c H locs 0 0 Q (F0 m 213 ls []) := by
                  intro H locs ls hj460_0  hP hD hS hl
                  refine lv_iconst (v := 1) hx hb dX10_advance_213 (by decide +kernel) ?_
                  refine lv_goto (tgt := 218) hx hb dX10_advance_214 (by decide) ?_
                  refine lv_istore (lv' := [(4, .int 1), (3, .int y113_3), (2, .int 1), (1, .int v0_3), (0, .ref h0)]) hx hb dX10_advance_218 hl (by decide) rfl (fun ls hl => ?_)
                  refine lv_iload hx hb dX10_advance_220 (lv_at hl 0 rfl) ?_
                  refine lv_if_ne (tgt := 253) hx hb dX10_advance_222 (by decide) (fun c_29 => ?_) (fun c_29 => by exfalso; have oc_29 := zk_eq (by decide +kernel : (1 : Int32).toInt = 1) (by decide +kernel : (0 : Int32).toInt = 0) c_29; omega)
                  have oc_29 := zk_ne (by decide +kernel : (1 : Int32).toInt = 1) (by decide +kernel : (0 : Int32).toInt = 0) c_29
                  refine lv_aload_n hx hb dX10_advance_253 rfl (lv_at hl 4 rfl) ?_
                  refine lv_iconst (v := 4) hx hb dX10_advance_254 (by decide +kernel) ?_
                  refine va_put (D := (dC, dI)) (ci := 10) (v := .int 4) (ty := .int) (C := RX10) (T := TX10) (N := 8) hx hb hts zn_X10_advance_X10 tyX10 tyX10_ok nmX10 hown hK hP hD hS 0 rfl rfl 4 (by decide) (hts (.fieldLink RX10 46 "ShortEnough$Words" "kind" "I") zw_X10_advance_264) (fun _ h9 => h9) rfl (by decide +kernel) rfl rfl (Nat.le_of_ble_eq_true rfl) dX10_advance_255 (fun H locs hP hD hS => ?_)
                  have hP : va_P (dC, dI) vwCl [(h0, .inr (10, [.ref r0_0, .ref r0_1, .int v0_2, .int y113_h0_3, .int 4, .int y27_h0_3, .int y113_h0_6, .int v0_7])), (r0_1, .inl (k1, 1200, .inl f1)), (r0_0, .inl (k2, 13, .inl f2))] H := hP
                  have hD : va_D A [(h0, .inr (10, [.ref r0_0, .ref r0_1, .int v0_2, .int y113_h0_3, .int 4, .int y27_h0_3, .int y113_h0_6, .int v0_7])), (r0_1, .inl (k1, 1200, .inl f1)), (r0_0, .inl (k2, 13, .inl f2))] := hD
                  refine lv_aload_n hx hb dX10_advance_258 rfl (lv_at hl 4 rfl) ?_
                  refine lv_aload_n hx hb dX10_advance_259 rfl (lv_at hl 4 rfl) ?_
                  refine va_get (D := (dC, dI)) (ci := 10) (v := .int 4) (C := RX10) (T := TX10) (N := 8) hx hb hts zn_X10_advance_X10 hown hK hP 0 rfl rfl 4 (by decide) (hts (.fieldLink RX10 46 "ShortEnough$Words" "kind" "I") zw_X10_advance_264) (fun _ h9 => h9) rfl dX10_advance_260 ?_
                  refine lv_iconst (v := 1) hx hb dX10_advance_263 (by decide +kernel) ?_
                  refine lv_icmp_ne (tgt := 278) hx hb dX10_advance_264 (by decide) (fun c_30 => ?_) (fun c_30 => by exfalso; have oc_30 := zk_eq (by decide +kernel : (4 : Int32).toInt = 4) (by decide +kernel : (1 : Int32).toInt = 1) c_30; omega)
                  have oc_30 := zk_ne (by decide +kernel : (4 : Int32).toInt = 4) (by decide +kernel : (1 : Int32).toInt = 1) c_30
                  refine lv_iconst (v := (-1)) hx hb dX10_advance_278 (by decide +kernel) ?_
                  refine va_put (D := (dC, dI)) (ci := 10) (v := .int (-1)) (ty := .int) (C := RX10) (T := TX10) (N := 8) hx hb hts zn_X10_advance_X10 tyX10 tyX10_ok nmX10 hown hK hP hD hS 0 rfl rfl 7 (by decide) (hts (.fieldLink RX10 70 "ShortEnough$Words" "own" "I") zw_X10_advance_269) (fun _ h9 => h9) rfl (by decide +kernel) rfl rfl (Nat.le_of_ble_eq_true rfl) dX10_advance_279 (fun H locs hP hD hS => ?_)
                  have hP : va_P (dC, dI) vwCl [(h0, .inr (10, [.ref r0_0, .ref r0_1, .int v0_2, .int y113_h0_3, .int 4, .int y27_h0_3, .int y113_h0_6, .int (-1)])), (r0_1, .inl (k1, 1200, .inl f1)), (r0_0, .inl (k2, 13, .inl f2))] H := hP
                  have hD : va_D A [(h0, .inr (10, [.ref r0_0, .ref r0_1, .int v0_2, .int y113_h0_3, .int 4, .int y27_h0_3, .int y113_h0_6, .int (-1)])), (r0_1, .inl (k1, 1200, .inl f1)), (r0_0, .inl (k2, 13, .inl f2))] := hD
                  have hP9 := hP.sub (ws' := [(h0, .inr (10, [.ref r0_0, .ref r0_1, .int v0_2, .int y113_h0_3, .int 4, .int y27_h0_3, .int y113_h0_6, .int (-1)])), (r0_1, .inl (k1, 1200, .inl f1)), (r0_0, .inl (k2, 13, .inl f2))]) [0, 1, 2] rfl
                  have hD9 := hD.sub (ws' := [(h0, .inr (10, [.ref r0_0, .ref r0_1, .int v0_2, .int y113_h0_3, .int 4, .int y27_h0_3, .int y113_h0_6, .int (-1)])), (r0_1, .inl (k1, 1200, .inl f1)), (r0_0, .inl (k2, 13, .inl f2))]) [0, 1, 2] (by decide) rfl
                  have hK9 := hK.sub (tys' := [(k1, .byte), (k2, .int)]) [0, 1] rfl
                  rw [← hQ]
                  exact W.vret hx hb hr (fun t ht hW => ⟨⟨((fun k => ([y113_h0_3, 4, y27_h0_3, y113_h0_6, (-1)] : List Int32).getD k 0), (fun k => ([] : List (Nat → Int32)).getD k (fun _ => 0)), (fun k => ([] : List (Nat → Int64)).getD k (fun _ => 0))), rfl, ⟨(show (0 : Int) ≤ (y113_h0_3 : Int32).toInt ∧ (y113_h0_3 : Int32).toInt ≤ 1200 by omega), (show (0 : Int) ≤ (4 : Int32).toInt ∧ (4 : Int32).toInt ≤ 5 by decide +kernel), (show (0 : Int) ≤ (y27_h0_3 : Int32).toInt ∧ (y27_h0_3 : Int32).toInt ≤ 1200 by omega), (show (-1 : Int) ≤ ((-1) : Int32).toInt ∧ ((-1) : Int32).toInt ≤ 12 by decide +kernel), trivial⟩, by rw [ht]; exact hP9, va_K.moved hW.alike hK9, hD9⟩, hS.F ht⟩) hS.2.2 dX10_advance_282
                refine lv_icmp_eq (tgt := 213) hx hb dX10_advance_202 (by decide) (fun c_31 => ?_) (fun c_31 => ?_)
                · have oc_31 := zk_eq rfl (by decide +kernel : (1 : Int32).toInt = 1) c_31
                  exact jp213_460   H locs ls (by omega)  hP hD hS (lv_sub hl [0, 1, 2, 3] rfl)
                have oc_31 := zk_ne rfl (by decide +kernel : (1 : Int32).toInt = 1) c_31
                refine lv_aload_n hx hb dX10_advance_205 rfl (lv_at hl 3 rfl) ?_
                refine va_get (D := (dC, dI)) (ci := 10) (v := .int r_12) (C := RX10) (T := TX10) (N := 8) hx hb hts zn_X10_advance_X10 hown hK hP 0 rfl rfl 4 (by decide) (hts (.fieldLink RX10 46 "ShortEnough$Words" "kind" "I") zw_X10_advance_264) (fun _ h9 => h9) rfl dX10_advance_206 ?_
                refine lv_iconst (v := 2) hx hb dX10_advance_209 (by decide +kernel) ?_
                refine lv_icmp_ne (tgt := 217) hx hb dX10_advance_210 (by decide) (fun c_32 => ?_) (fun c_32 => ?_)
                · have oc_32 := zk_ne rfl (by decide +kernel : (2 : Int32).toInt = 2) c_32
                  exact jp217_458   H locs ls (by omega)  hP hD hS (lv_sub hl [0, 1, 2, 3] rfl)
                have oc_32 := zk_eq rfl (by decide +kernel : (2 : Int32).toInt = 2) c_32
                exact jp213_460   H locs ls (by omega)  hP hD hS (lv_sub hl [0, 1, 2, 3] rfl)
              refine lv_icmp_ge (tgt := 185) hx hb dX10_advance_121 (by decide) (fun c_33 => ?_) (fun c_33 => ?_)
              · have oc_33 := zk_le rfl rfl c_33
                exact jp185_456   H locs ls  hP hD hS (lv_sub hl [0, 1, 2, 3] rfl)
              have oc_33 := zk_nle rfl rfl c_33
              refine lv_aload_n hx hb dX10_advance_124 rfl (lv_at hl 3 rfl) ?_
              refine va_get (D := (dC, dI)) (ci := 10) (v := .ref r0_1) (C := RX10) (T := TX10) (N := 8) hx hb hts zn_X10_advance_X10 hown hK hP 0 rfl rfl 1 (by decide) (hts (.fieldLink RX10 15 "ShortEnough$Words" "text" "[B") zw_X10_advance_266) (fun _ h9 => h9) rfl dX10_advance_125 ?_
              refine lv_aload_n hx hb dX10_advance_128 rfl (lv_at hl 3 rfl) ?_
              refine va_get (D := (dC, dI)) (ci := 10) (v := .int y113_h0_3) (C := RX10) (T := TX10) (N := 8) hx hb hts zn_X10_advance_X10 hown hK hP 0 rfl rfl 3 (by decide) (hts (.fieldLink RX10 43 "ShortEnough$Words" "place" "I") zw_X10_advance_263) (fun _ h9 => h9) rfl dX10_advance_129 ?_
              refine va_bald hx hb hK hP 1 0 rfl rfl (vp_in_iff.mpr ⟨by omega, by omega⟩) dX10_advance_132 ?_
              refine lv_topi (fun x_34 ex_34 => ?_)
              have hPc := hP.sub (ws' := []) [] rfl
              have hDc := hD.sub (ws' := []) [] (by decide) rfl
              have hKc := hK.sub (tys' := []) [] rfl
              have hFc := va_free (wc := []) hD hS hA [] rfl
              refine va_calli (va_runS (As := [.int x_34]) (rest := []) ⟨hx, hb, hml, hown, hts⟩ (zs_X10_kindOf l dC dI x_34  H.size) (va_cwS 1 hts gX10_advance_X10_kindOf rfl rfl rfl (by decide +kernel) ⟨Nat.le_of_ble_eq_true rfl, Nat.le_of_ble_eq_true rfl⟩) ⟨fun a U g mk q => by obtain ⟨q0, q1, qP, qK, qD⟩ := q; exact ⟨q0, q1, qP, va_K.moved (u := U) (U := U.calling g mk a) (Vm.Alike.refl U.vm) qK, qD⟩, fun U hU hW => ⟨rfl, by rw [hU], by rw [hU]; exact hPc, va_K.moved hW.alike hKc, hDc.weaken (fun _ _ _ _ => trivial)⟩⟩ rfl rfl hl.1 rfl (lv_room (Nat.le_of_ble_eq_true rfl)) dX10_advance_133 ⟨Nat.le_of_ble_eq_true rfl, Nat.le_of_ble_eq_true rfl⟩) hS (fun q _ h => hFc q h) hFc (fun r_35 u_36 t H1 locs ht hvm hw_37 hB hz1 hk1 hS => ?_)
              obtain ⟨hP1, hK1, hD1⟩ := hB
              rw [ht] at hP1
              have hK1 := va_K.moved hvm.symm hK1
              obtain ⟨hP, hD⟩ := va_join (wr := [(h0, .inr (10, [.ref r0_0, .ref r0_1, .int v0_2, .int y113_h0_3, .int r_12, .int y27_h0_3, .int y113_h0_6, .int v0_7])), (r0_1, .inl (k1, 1200, .inl f1)), (r0_0, .inl (k2, 13, .inl f2))]) (w1 := []) hP hD [] [0, 1, 2] rfl rfl (by decide) (by decide) hk1 hFc hP1 hD1
              have hK := hK
              generalize H1 = H at hP hS ⊢
              have hP := hP.sub (ws' := [(h0, .inr (10, [.ref r0_0, .ref r0_1, .int v0_2, .int y113_h0_3, .int r_12, .int y27_h0_3, .int y113_h0_6, .int v0_7])), (r0_1, .inl (k1, 1200, .inl f1)), (r0_0, .inl (k2, 13, .inl f2))]) [0, 1, 2] rfl
              have hD := hD.sub (ws' := [(h0, .inr (10, [.ref r0_0, .ref r0_1, .int v0_2, .int y113_h0_3, .int r_12, .int y27_h0_3, .int y113_h0_6, .int v0_7])), (r0_1, .inl (k1, 1200, .inl f1)), (r0_0, .inl (k2, 13, .inl f2))]) [0, 1, 2] (by decide) rfl
              have hP : va_P (dC, dI) vwCl [(h0, .inr (10, [.ref r0_0, .ref r0_1, .int v0_2, .int y113_h0_3, .int r_12, .int y27_h0_3, .int y113_h0_6, .int v0_7])), (r0_1, .inl (k1, 1200, .inl f1)), (r0_0, .inl (k2, 13, .inl f2))] H := hP
              have hD : va_D A [(h0, .inr (10, [.ref r0_0, .ref r0_1, .int v0_2, .int y113_h0_3, .int r_12, .int y27_h0_3, .int y113_h0_6, .int v0_7])), (r0_1, .inl (k1, 1200, .inl f1)), (r0_0, .inl (k2, 13, .inl f2))] := hD
              obtain ⟨hr_35, -⟩ := hw_37
              refine lv_aload_n hx hb dX10_advance_136 rfl (lv_at hl 3 rfl) ?_
              refine va_get (D := (dC, dI)) (ci := 10) (v := .int r_12) (C := RX10) (T := TX10) (N := 8) hx hb hts zn_X10_advance_X10 hown hK hP 0 rfl rfl 4 (by decide) (hts (.fieldLink RX10 46 "ShortEnough$Words" "kind" "I") zw_X10_advance_264) (fun _ h9 => h9) rfl dX10_advance_137 ?_
              have jp185_462 : ∀  (H : Heap) (locs : List Loc) (ls : Array Slot), va_P (dC, dI) vwCl [(h0, .inr (10, [.ref r0_0, .ref r0_1, .int v0_2, .int y113_h0_3, .int r_12, .int y27_h0_3, .int y113_h0_6, .int v0_7])), (r0_1, .inl (k1, 1200, .inl f1)), (r0_0, .inl (k2, 13, .inl f2))] H → va_D A [(h0, .inr (10, [.ref r0_0, .ref r0_1, .int v0_2, .int y113_h0_3, .int r_12, .int y27_h0_3, .int y113_h0_6, .int v0_7])), (r0_1, .inl (k1, 1200, .inl f1)), (r0_0, .inl (k2, 13, .inl f2))] → va_S A s.heap H locs → lv_has ls 5 [(3, .int y113_3), (2, .int 1), (1, .int v0_3), (0, .ref h0)] → W p l e (headSpec wsX10_advance ({ frames := 1, cells := 0, slots := 0, locals := 22 })).room s m ([.ref h0] : List Value).toArray below meth c H locs 0 0 Q (F0 m 185 ls []) := by
                intro H locs ls  hP hD hS hl
                exact jp185_456   H locs ls  hP hD hS (lv_sub hl [0, 1, 2, 3] rfl)
              refine lv_icmp_ne (tgt := 185) hx hb dX10_advance_140 (by decide) (fun c_38 => ?_) (fun c_38 => ?_)
              · have oc_38 := zk_ne rfl rfl c_38
                exact jp185_462   H locs ls  hP hD hS (lv_sub hl [0, 1, 2, 3] rfl)
              have oc_38 := zk_eq rfl rfl c_38
              refine lv_aload_n hx hb dX10_advance_143 rfl (lv_at hl 3 rfl) ?_
              refine va_get (D := (dC, dI)) (ci := 10) (v := .int r_12) (C := RX10) (T := TX10) (N := 8) hx hb hts zn_X10_advance_X10 hown hK hP 0 rfl rfl 4 (by decide) (hts (.fieldLink RX10 46 "ShortEnough$Words" "kind" "I") zw_X10_advance_264) (fun _ h9 => h9) rfl dX10_advance_144 ?_
              refine lv_iconst (v := 3) hx hb dX10_advance_147 (by decide +kernel) ?_
              have jp155_463 : ∀  (H : Heap) (locs : List Loc) (ls : Array Slot), va_P (dC, dI) vwCl [(h0, .inr (10, [.ref r0_0, .ref r0_1, .int v0_2, .int y113_h0_3, .int r_12, .int y27_h0_3, .int y113_h0_6, .int v0_7])), (r0_1, .inl (k1, 1200, .inl f1)), (r0_0, .inl (k2, 13, .inl f2))] H → va_D A [(h0, .inr (10, [.ref r0_0, .ref r0_1, .int v0_2, .int y113_h0_3, .int r_12, .int y27_h0_3, .int y113_h0_6, .int v0_7])), (r0_1, .inl (k1, 1200, .inl f1)), (r0_0, .inl (k2, 13, .inl f2))] → va_S A s.heap H locs → lv_has ls 5 [(3, .int y113_3), (2, .int 1), (1, .int v0_3), (0, .ref h0)] → W p l e (headSpec wsX10_advance ({ frames := 1, cells := 0, slots := 0, locals := 22 })).room s m ([.ref h0] : List Value).toArray below meth c H locs 0 0 Q (F0 m 155 ls []) := by
                intro H locs ls  hP hD hS hl
                obtain ⟨x_39, ex_39⟩ : ∃ y : Int32, y = y113_3 + 1 := ⟨_, rfl⟩
                refine lv_iinc (v := x_39) (lv' := [(3, .int x_39), (2, .int 1), (1, .int v0_3), (0, .ref h0)]) hx hb dX10_advance_155 hl (k := 0) rfl (by rw [ex_39]; rfl) (by decide) rfl (fun ls hl => ?_)
                have hx_39 := zo_add ex_39 rfl (by decide +kernel : (1 : Int32).toInt = 1) (by omega)
                refine lv_aload_n hx hb dX10_advance_158 rfl (lv_at hl 3 rfl) ?_
                refine lv_aload_n hx hb dX10_advance_159 rfl (lv_at hl 3 rfl) ?_
                refine va_get (D := (dC, dI)) (ci := 10) (v := .ref r0_1) (C := RX10) (T := TX10) (N := 8) hx hb hts zn_X10_advance_X10 hown hK hP 0 rfl rfl 1 (by decide) (hts (.fieldLink RX10 15 "ShortEnough$Words" "text" "[B") zw_X10_advance_266) (fun _ h9 => h9) rfl dX10_advance_160 ?_
                refine lv_aload_n hx hb dX10_advance_163 rfl (lv_at hl 3 rfl) ?_
                refine va_get (D := (dC, dI)) (ci := 10) (v := .int y113_h0_3) (C := RX10) (T := TX10) (N := 8) hx hb hts zn_X10_advance_X10 hown hK hP 0 rfl rfl 3 (by decide) (hts (.fieldLink RX10 43 "ShortEnough$Words" "place" "I") zw_X10_advance_263) (fun _ h9 => h9) rfl dX10_advance_164 ?_
                refine va_bald hx hb hK hP 1 0 rfl rfl (vp_in_iff.mpr ⟨by omega, by omega⟩) dX10_advance_167 ?_
                refine lv_topi (fun x_40 ex_40 => ?_)
                refine lv_iload_n hx hb dX10_advance_168 rfl (lv_at hl 0 rfl) ?_
                have hPc := hP.sub (ws' := [(h0, .inr (10, [.ref r0_0, .ref r0_1, .int v0_2, .int y113_h0_3, .int r_12, .int y27_h0_3, .int y113_h0_6, .int v0_7]))]) [0] rfl
                have hDc := hD.sub (ws' := [(h0, .inr (10, [.ref r0_0, .ref r0_1, .int v0_2, .int y113_h0_3, .int r_12, .int y27_h0_3, .int y113_h0_6, .int v0_7]))]) [0] (by decide) rfl
                have hKc := hK.sub (tys' := []) [] rfl
                have hFc := va_free (wc := [(h0, .inr (10, [.ref r0_0, .ref r0_1, .int v0_2, .int y113_h0_3, .int r_12, .int y27_h0_3, .int y113_h0_6, .int v0_7]))]) hD hS hA [0] rfl
                refine va_callv (va_runV (As := [.int x_40, .int x_39]) (rest := []) ⟨hx, hb, hml, hown, hts⟩ (zs_X10_addByte l dC dI h0 x_40 x_39 r0_0 r0_1 v0_2 y113_h0_3 r_12 y27_h0_3 y113_h0_6 v0_7 (by omega) (by omega) (by omega) (by omega) (by omega) H.size) (cwV 2 hts gX10_advance_X10_addByte rfl rfl rfl (by decide +kernel) ⟨Nat.le_of_ble_eq_true rfl, Nat.le_of_ble_eq_true rfl⟩) ⟨fun a U g mk q => by obtain ⟨q0, q1, qP, qK, qD⟩ := q; exact ⟨q0, q1, qP, va_K.moved (u := U) (U := U.calling g mk a) (Vm.Alike.refl U.vm) qK, qD⟩, va_recv hKc hPc (ci := 10) (q0 := 0) rfl rfl, fun U hU hW => ⟨rfl, by rw [hU], by rw [hU]; exact hPc, va_K.moved hW.alike hKc, hDc.weaken (fun _ _ _ _ => trivial)⟩⟩ rfl rfl hl.1 rfl (lv_room (Nat.le_of_ble_eq_true rfl)) dX10_advance_169 ⟨Nat.le_of_ble_eq_true rfl, Nat.le_of_ble_eq_true rfl⟩) hS (fun q _ h => hFc q h) hFc (fun u_42 t H1 locs ht hvm hw_43 hB hz1 hk1 hS => ?_)
                obtain ⟨hP1, hK1, hD1⟩ := hB
                rw [ht] at hP1
                have hK1 := va_K.moved hvm.symm hK1
                obtain ⟨hP, hD⟩ := va_join (wr := [(r0_1, .inl (k1, 1200, .inl f1)), (r0_0, .inl (k2, 13, .inl f2))]) (w1 := [(h0, .inr (10, [.ref r0_0, .ref r0_1, .int v0_2, .int y113_h0_3, .int r_12, .int y27_h0_3, .int (u_42.1 0), .int v0_7]))]) hP hD [0] [1, 2] rfl rfl (by decide) (by decide) hk1 hFc hP1 hD1
                have hK := hK
                generalize H1 = H at hP hS ⊢
                have hP := hP.sub (ws' := [(h0, .inr (10, [.ref r0_0, .ref r0_1, .int v0_2, .int y113_h0_3, .int r_12, .int y27_h0_3, .int (u_42.1 0), .int v0_7])), (r0_1, .inl (k1, 1200, .inl f1)), (r0_0, .inl (k2, 13, .inl f2))]) [2, 0, 1] rfl
                have hD := hD.sub (ws' := [(h0, .inr (10, [.ref r0_0, .ref r0_1, .int v0_2, .int y113_h0_3, .int r_12, .int y27_h0_3, .int (u_42.1 0), .int v0_7])), (r0_1, .inl (k1, 1200, .inl f1)), (r0_0, .inl (k2, 13, .inl f2))]) [2, 0, 1] (by decide) rfl
                have hP : va_P (dC, dI) vwCl [(h0, .inr (10, [.ref r0_0, .ref r0_1, .int v0_2, .int y113_h0_3, .int r_12, .int y27_h0_3, .int (u_42.1 0), .int v0_7])), (r0_1, .inl (k1, 1200, .inl f1)), (r0_0, .inl (k2, 13, .inl f2))] H := hP
                have hD : va_D A [(h0, .inr (10, [.ref r0_0, .ref r0_1, .int v0_2, .int y113_h0_3, .int r_12, .int y27_h0_3, .int (u_42.1 0), .int v0_7])), (r0_1, .inl (k1, 1200, .inl f1)), (r0_0, .inl (k2, 13, .inl f2))] := hD
                refine lv_aload_n hx hb dX10_advance_172 rfl (lv_at hl 3 rfl) ?_
                refine lv_dup hx hb dX10_advance_173 rfl ?_
                refine va_get (D := (dC, dI)) (ci := 10) (v := .int y113_h0_3) (C := RX10) (T := TX10) (N := 8) hx hb hts zn_X10_advance_X10 hown hK hP 0 rfl rfl 3 (by decide) (hts (.fieldLink RX10 43 "ShortEnough$Words" "place" "I") zw_X10_advance_263) (fun _ h9 => h9) rfl dX10_advance_174 ?_
                refine lv_iconst (v := 1) hx hb dX10_advance_177 (by decide +kernel) ?_
                refine lv_iadd hx hb dX10_advance_178 ?_
                refine lv_topi (fun x_44 ex_44 => ?_)
                have hx_44 := zo_add ex_44 rfl (by decide +kernel : (1 : Int32).toInt = 1) (by omega)
                refine va_put (D := (dC, dI)) (ci := 10) (v := .int x_44) (ty := .int) (C := RX10) (T := TX10) (N := 8) hx hb hts zn_X10_advance_X10 tyX10 tyX10_ok nmX10 hown hK hP hD hS 0 rfl rfl 3 (by decide) (hts (.fieldLink RX10 43 "ShortEnough$Words" "place" "I") zw_X10_advance_263) (fun _ h9 => h9) rfl (by decide +kernel) rfl rfl (Nat.le_of_ble_eq_true rfl) dX10_advance_179 (fun H locs hP hD hS => ?_)
                have hP : va_P (dC, dI) vwCl [(h0, .inr (10, [.ref r0_0, .ref r0_1, .int v0_2, .int x_44, .int r_12, .int y27_h0_3, .int (u_42.1 0), .int v0_7])), (r0_1, .inl (k1, 1200, .inl f1)), (r0_0, .inl (k2, 13, .inl f2))] H := hP
                have hD : va_D A [(h0, .inr (10, [.ref r0_0, .ref r0_1, .int v0_2, .int x_44, .int r_12, .int y27_h0_3, .int (u_42.1 0), .int v0_7])), (r0_1, .inl (k1, 1200, .inl f1)), (r0_0, .inl (k2, 13, .inl f2))] := hD
                refine lv_goto (tgt := 113) hx hb dX10_advance_182 (by decide) ?_
                exact ih113  x_39 x_44 (u_42.1 0) H locs ls (by omega) (by omega) (by omega) (by omega) (by omega) (by omega) (by omega) (by omega) (by omega) (by omega)  (by omega) hP hD hS (lv_sub hl [0, 1, 2, 3] rfl)
              refine lv_icmp_ne (tgt := 155) hx hb dX10_advance_148 (by decide) (fun c_45 => ?_) (fun c_45 => ?_)
              · have oc_45 := zk_ne rfl (by decide +kernel : (3 : Int32).toInt = 3) c_45
                exact jp155_463   H locs ls  hP hD hS (lv_sub hl [0, 1, 2, 3] rfl)
              have oc_45 := zk_eq rfl (by decide +kernel : (3 : Int32).toInt = 3) c_45
              refine lv_iload_n hx hb dX10_advance_151 rfl (lv_at hl 0 rfl) ?_
              refine lv_if_ne (tgt := 185) hx hb dX10_advance_152 (by decide) (fun c_46 => ?_) (fun c_46 => ?_)
              · have oc_46 := zk_ne rfl (by decide +kernel : (0 : Int32).toInt = 0) c_46
                exact jp185_462   H locs ls  hP hD hS (lv_sub hl [0, 1, 2, 3] rfl)
              have oc_46 := zk_eq rfl (by decide +kernel : (0 : Int32).toInt = 0) c_46
              exact jp155_463   H locs ls  hP hD hS (lv_sub hl [0, 1, 2, 3] rfl)
          have kk0 : (0 : Int32).toInt = 0 := (by decide +kernel)
          exact lp113 ((1201 - (0 : Int32).toInt).toNat + 1) 0 y27_h0_3 0 H locs ls (by omega) (by omega) (by omega) (by omega) (by omega) (by omega) (by omega) (by omega) (by omega) (by omega)  (by omega) hP hD hS (lv_sub hl [0, 1, 2, 3] rfl)
        refine lv_icmp_ge (tgt := 67) hx hb dX10_advance_35 (by decide) (fun c_47 => ?_) (fun c_47 => ?_)
        · have oc_47 := zk_le rfl rfl c_47
          exact jp67_417   H locs ls  hP hD hS (lv_sub hl [0, 1, 2] rfl)
        have oc_47 := zk_nle rfl rfl c_47
        refine lv_aload_n hx hb dX10_advance_38 rfl (lv_at hl 2 rfl) ?_
        refine va_get (D := (dC, dI)) (ci := 10) (v := .ref r0_1) (C := RX10) (T := TX10) (N := 8) hx hb hts zn_X10_advance_X10 hown hK hP 0 rfl rfl 1 (by decide) (hts (.fieldLink RX10 15 "ShortEnough$Words" "text" "[B") zw_X10_advance_266) (fun _ h9 => h9) rfl dX10_advance_39 ?_
        refine lv_aload_n hx hb dX10_advance_42 rfl (lv_at hl 2 rfl) ?_
        refine va_get (D := (dC, dI)) (ci := 10) (v := .int y27_h0_3) (C := RX10) (T := TX10) (N := 8) hx hb hts zn_X10_advance_X10 hown hK hP 0 rfl rfl 3 (by decide) (hts (.fieldLink RX10 43 "ShortEnough$Words" "place" "I") zw_X10_advance_263) (fun _ h9 => h9) rfl dX10_advance_43 ?_
        refine va_bald hx hb hK hP 1 0 rfl rfl (vp_in_iff.mpr ⟨by omega, by omega⟩) dX10_advance_46 ?_
        refine lv_topi (fun x_48 ex_48 => ?_)
        have hPc := hP.sub (ws' := []) [] rfl
        have hDc := hD.sub (ws' := []) [] (by decide) rfl
        have hKc := hK.sub (tys' := []) [] rfl
        have hFc := va_free (wc := []) hD hS hA [] rfl
        refine va_calli (va_runS (As := [.int x_48]) (rest := []) ⟨hx, hb, hml, hown, hts⟩ (zs_X10_kindOf l dC dI x_48  H.size) (va_cwS 1 hts gX10_advance_X10_kindOf rfl rfl rfl (by decide +kernel) ⟨Nat.le_of_ble_eq_true rfl, Nat.le_of_ble_eq_true rfl⟩) ⟨fun a U g mk q => by obtain ⟨q0, q1, qP, qK, qD⟩ := q; exact ⟨q0, q1, qP, va_K.moved (u := U) (U := U.calling g mk a) (Vm.Alike.refl U.vm) qK, qD⟩, fun U hU hW => ⟨rfl, by rw [hU], by rw [hU]; exact hPc, va_K.moved hW.alike hKc, hDc.weaken (fun _ _ _ _ => trivial)⟩⟩ rfl rfl hl.1 rfl (lv_room (Nat.le_of_ble_eq_true rfl)) dX10_advance_47 ⟨Nat.le_of_ble_eq_true rfl, Nat.le_of_ble_eq_true rfl⟩) hS (fun q _ h => hFc q h) hFc (fun r_49 u_50 t H1 locs ht hvm hw_51 hB hz1 hk1 hS => ?_)
        obtain ⟨hP1, hK1, hD1⟩ := hB
        rw [ht] at hP1
        have hK1 := va_K.moved hvm.symm hK1
        obtain ⟨hP, hD⟩ := va_join (wr := [(h0, .inr (10, [.ref r0_0, .ref r0_1, .int v0_2, .int y27_h0_3, .int v0_4, .int v0_5, .int v0_6, .int v0_7])), (r0_1, .inl (k1, 1200, .inl f1)), (r0_0, .inl (k2, 13, .inl f2))]) (w1 := []) hP hD [] [0, 1, 2] rfl rfl (by decide) (by decide) hk1 hFc hP1 hD1
        have hK := hK
        generalize H1 = H at hP hS ⊢
        have hP := hP.sub (ws' := [(h0, .inr (10, [.ref r0_0, .ref r0_1, .int v0_2, .int y27_h0_3, .int v0_4, .int v0_5, .int v0_6, .int v0_7])), (r0_1, .inl (k1, 1200, .inl f1)), (r0_0, .inl (k2, 13, .inl f2))]) [0, 1, 2] rfl
        have hD := hD.sub (ws' := [(h0, .inr (10, [.ref r0_0, .ref r0_1, .int v0_2, .int y27_h0_3, .int v0_4, .int v0_5, .int v0_6, .int v0_7])), (r0_1, .inl (k1, 1200, .inl f1)), (r0_0, .inl (k2, 13, .inl f2))]) [0, 1, 2] (by decide) rfl
        have hP : va_P (dC, dI) vwCl [(h0, .inr (10, [.ref r0_0, .ref r0_1, .int v0_2, .int y27_h0_3, .int v0_4, .int v0_5, .int v0_6, .int v0_7])), (r0_1, .inl (k1, 1200, .inl f1)), (r0_0, .inl (k2, 13, .inl f2))] H := hP
        have hD : va_D A [(h0, .inr (10, [.ref r0_0, .ref r0_1, .int v0_2, .int y27_h0_3, .int v0_4, .int v0_5, .int v0_6, .int v0_7])), (r0_1, .inl (k1, 1200, .inl f1)), (r0_0, .inl (k2, 13, .inl f2))] := hD
        obtain ⟨hr_49, -⟩ := hw_51
        refine lv_iconst (v := 5) hx hb dX10_advance_50 (by decide +kernel) ?_
        refine lv_icmp_ne (tgt := 67) hx hb dX10_advance_51 (by decide) (fun c_52 => ?_) (fun c_52 => ?_)
        · have oc_52 := zk_ne rfl (by decide +kernel : (5 : Int32).toInt = 5) c_52
          exact jp67_417   H locs ls  hP hD hS (lv_sub hl [0, 1, 2] rfl)
        have oc_52 := zk_eq rfl (by decide +kernel : (5 : Int32).toInt = 5) c_52
        refine lv_aload_n hx hb dX10_advance_54 rfl (lv_at hl 2 rfl) ?_
        refine lv_dup hx hb dX10_advance_55 rfl ?_
        refine va_get (D := (dC, dI)) (ci := 10) (v := .int y27_h0_3) (C := RX10) (T := TX10) (N := 8) hx hb hts zn_X10_advance_X10 hown hK hP 0 rfl rfl 3 (by decide) (hts (.fieldLink RX10 43 "ShortEnough$Words" "place" "I") zw_X10_advance_263) (fun _ h9 => h9) rfl dX10_advance_56 ?_
        refine lv_iconst (v := 1) hx hb dX10_advance_59 (by decide +kernel) ?_
        refine lv_iadd hx hb dX10_advance_60 ?_
        refine lv_topi (fun x_53 ex_53 => ?_)
        have hx_53 := zo_add ex_53 rfl (by decide +kernel : (1 : Int32).toInt = 1) (by omega)
        refine va_put (D := (dC, dI)) (ci := 10) (v := .int x_53) (ty := .int) (C := RX10) (T := TX10) (N := 8) hx hb hts zn_X10_advance_X10 tyX10 tyX10_ok nmX10 hown hK hP hD hS 0 rfl rfl 3 (by decide) (hts (.fieldLink RX10 43 "ShortEnough$Words" "place" "I") zw_X10_advance_263) (fun _ h9 => h9) rfl (by decide +kernel) rfl rfl (Nat.le_of_ble_eq_true rfl) dX10_advance_61 (fun H locs hP hD hS => ?_)
        have hP : va_P (dC, dI) vwCl [(h0, .inr (10, [.ref r0_0, .ref r0_1, .int v0_2, .int x_53, .int v0_4, .int v0_5, .int v0_6, .int v0_7])), (r0_1, .inl (k1, 1200, .inl f1)), (r0_0, .inl (k2, 13, .inl f2))] H := hP
        have hD : va_D A [(h0, .inr (10, [.ref r0_0, .ref r0_1, .int v0_2, .int x_53, .int v0_4, .int v0_5, .int v0_6, .int v0_7])), (r0_1, .inl (k1, 1200, .inl f1)), (r0_0, .inl (k2, 13, .inl f2))] := hD
        refine lv_goto (tgt := 27) hx hb dX10_advance_64 (by decide) ?_
        exact ih27  x_53 H locs ls (by omega) (by omega) (by omega)  (by omega) hP hD hS (lv_sub hl [0, 1, 2] rfl)
    exact lp27 ((1201 - (v0_3 : Int32).toInt).toNat + 1) v0_3 H locs ls (by omega) (by omega) (by omega)  (by omega) hP hD hS (lv_sub hl [0, 1, 2] rfl)
  refine lv_icmp_eq (tgt := 21) hx hb dX10_advance_10 (by decide) (fun c_54 => ?_) (fun c_54 => ?_)
  · have oc_54 := zk_eq rfl (by decide +kernel : (1 : Int32).toInt = 1) c_54
    exact jp21_190   s.heap [] ls (by omega) (by omega)  hP hD hS (lv_sub hl [0, 1] rfl)
  have oc_54 := zk_ne rfl (by decide +kernel : (1 : Int32).toInt = 1) c_54
  refine lv_aload_n hx hb dX10_advance_13 rfl (lv_at hl 1 rfl) ?_
  refine va_get (D := (dC, dI)) (ci := 10) (v := .int v0_4) (C := RX10) (T := TX10) (N := 8) hx hb hts zn_X10_advance_X10 hown hK hP 0 rfl rfl 4 (by decide) (hts (.fieldLink RX10 46 "ShortEnough$Words" "kind" "I") zw_X10_advance_264) (fun _ h9 => h9) rfl dX10_advance_14 ?_
  refine lv_iconst (v := 2) hx hb dX10_advance_17 (by decide +kernel) ?_
  refine lv_icmp_ne (tgt := 25) hx hb dX10_advance_18 (by decide) (fun c_55 => ?_) (fun c_55 => ?_)
  · have oc_55 := zk_ne rfl (by decide +kernel : (2 : Int32).toInt = 2) c_55
    refine lv_iconst (v := 0) hx hb dX10_advance_25 (by decide +kernel) ?_
    refine lv_istore_n (lv' := [(2, .int 0), (1, .int v0_3), (0, .ref h0)]) hx hb dX10_advance_26 rfl hl (by decide) rfl (fun ls hl => ?_)
    have lp27 : ∀ (n : Nat) (y27_h0_3 : Int32) (H : Heap) (locs : List Loc) (ls : Array Slot), (0 : Int) ≤ y27_h0_3.toInt + (0) → (v0_3.toInt : Int) ≤ y27_h0_3.toInt + (0) → (y27_h0_3.toInt : Int) ≤ 0 + (1200) → 1201 - y27_h0_3.toInt < n → va_P (dC, dI) vwCl [(h0, .inr (10, [.ref r0_0, .ref r0_1, .int v0_2, .int y27_h0_3, .int v0_4, .int v0_5, .int v0_6, .int v0_7])), (r0_1, .inl (k1, 1200, .inl f1)), (r0_0, .inl (k2, 13, .inl f2))] H → va_D A [(h0, .inr (10, [.ref r0_0, .ref r0_1, .int v0_2, .int y27_h0_3, .int v0_4, .int v0_5, .int v0_6, .int v0_7])), (r0_1, .inl (k1, 1200, .inl f1)), (r0_0, .inl (k2, 13, .inl f2))] → va_S A s.heap H locs → lv_has ls 5 [(2, .int 0), (1, .int v0_3), (0, .ref h0)] → W p l e (headSpec wsX10_advance ({ frames := 1, cells := 0, slots := 0, locals := 22 })).room s m ([.ref h0] : List Value).toArray below meth c H locs 0 0 Q (F0 m 27 ls []) := by
      intro n
      induction n with
      | zero =>
        intro y27_h0_3 H locs ls hz27_0 hz27_1 hz27_2  hmeas hP hD hS hl
        exfalso; omega
      | succ n ih27 =>
        intro y27_h0_3 H locs ls hz27_0 hz27_1 hz27_2  hmeas hP hD hS hl
        refine lv_aload_n hx hb dX10_advance_27 rfl (lv_at hl 2 rfl) ?_
        refine va_get (D := (dC, dI)) (ci := 10) (v := .int y27_h0_3) (C := RX10) (T := TX10) (N := 8) hx hb hts zn_X10_advance_X10 hown hK hP 0 rfl rfl 3 (by decide) (hts (.fieldLink RX10 43 "ShortEnough$Words" "place" "I") zw_X10_advance_263) (fun _ h9 => h9) rfl dX10_advance_28 ?_
        refine lv_aload_n hx hb dX10_advance_31 rfl (lv_at hl 2 rfl) ?_
        refine va_get (D := (dC, dI)) (ci := 10) (v := .int v0_2) (C := RX10) (T := TX10) (N := 8) hx hb hts zn_X10_advance_X10 hown hK hP 0 rfl rfl 2 (by decide) (hts (.fieldLink RX10 40 "ShortEnough$Words" "length" "I") zw_X10_advance_265) (fun _ h9 => h9) rfl dX10_advance_32 ?_
        have jp67_626 : ∀  (H : Heap) (locs : List Loc) (ls : Array Slot), va_P (dC, dI) vwCl [(h0, .inr (10, [.ref r0_0, .ref r0_1, .int v0_2, .int y27_h0_3, .int v0_4, .int v0_5, .int v0_6, .int v0_7])), (r0_1, .inl (k1, 1200, .inl f1)), (r0_0, .inl (k2, 13, .inl f2))] H → va_D A [(h0, .inr (10, [.ref r0_0, .ref r0_1, .int v0_2, .int y27_h0_3, .int v0_4, .int v0_5, .int v0_6, .int v0_7])), (r0_1, .inl (k1, 1200, .inl f1)), (r0_0, .inl (k2, 13, .inl f2))] → va_S A s.heap H locs → lv_has ls 5 [(2, .int 0), (1, .int v0_3), (0, .ref h0)] → W p l e (headSpec wsX10_advance ({ frames := 1, cells := 0, slots := 0, locals := 22 })).room s m ([.ref h0] : List Value).toArray below meth c H locs 0 0 Q (F0 m 67 ls []) := by
          intro H locs ls  hP hD hS hl
          refine lv_aload_n hx hb dX10_advance_67 rfl (lv_at hl 2 rfl) ?_
          refine lv_aload_n hx hb dX10_advance_68 rfl (lv_at hl 2 rfl) ?_
          refine va_get (D := (dC, dI)) (ci := 10) (v := .int y27_h0_3) (C := RX10) (T := TX10) (N := 8) hx hb hts zn_X10_advance_X10 hown hK hP 0 rfl rfl 3 (by decide) (hts (.fieldLink RX10 43 "ShortEnough$Words" "place" "I") zw_X10_advance_263) (fun _ h9 => h9) rfl dX10_advance_69 ?_
          refine va_put (D := (dC, dI)) (ci := 10) (v := .int y27_h0_3) (ty := .int) (C := RX10) (T := TX10) (N := 8) hx hb hts zn_X10_advance_X10 tyX10 tyX10_ok nmX10 hown hK hP hD hS 0 rfl rfl 5 (by decide) (hts (.fieldLink RX10 56 "ShortEnough$Words" "start" "I") zw_X10_advance_267) (fun _ h9 => h9) rfl (by decide +kernel) rfl rfl (Nat.le_of_ble_eq_true rfl) dX10_advance_72 (fun H locs hP hD hS => ?_)
          have hP : va_P (dC, dI) vwCl [(h0, .inr (10, [.ref r0_0, .ref r0_1, .int v0_2, .int y27_h0_3, .int v0_4, .int y27_h0_3, .int v0_6, .int v0_7])), (r0_1, .inl (k1, 1200, .inl f1)), (r0_0, .inl (k2, 13, .inl f2))] H := hP
          have hD : va_D A [(h0, .inr (10, [.ref r0_0, .ref r0_1, .int v0_2, .int y27_h0_3, .int v0_4, .int y27_h0_3, .int v0_6, .int v0_7])), (r0_1, .inl (k1, 1200, .inl f1)), (r0_0, .inl (k2, 13, .inl f2))] := hD
          refine lv_aload_n hx hb dX10_advance_75 rfl (lv_at hl 2 rfl) ?_
          refine lv_aload_n hx hb dX10_advance_76 rfl (lv_at hl 2 rfl) ?_
          refine va_get (D := (dC, dI)) (ci := 10) (v := .int y27_h0_3) (C := RX10) (T := TX10) (N := 8) hx hb hts zn_X10_advance_X10 hown hK hP 0 rfl rfl 3 (by decide) (hts (.fieldLink RX10 43 "ShortEnough$Words" "place" "I") zw_X10_advance_263) (fun _ h9 => h9) rfl dX10_advance_77 ?_
          refine lv_aload_n hx hb dX10_advance_80 rfl (lv_at hl 2 rfl) ?_
          refine va_get (D := (dC, dI)) (ci := 10) (v := .int v0_2) (C := RX10) (T := TX10) (N := 8) hx hb hts zn_X10_advance_X10 hown hK hP 0 rfl rfl 2 (by decide) (hts (.fieldLink RX10 40 "ShortEnough$Words" "length" "I") zw_X10_advance_265) (fun _ h9 => h9) rfl dX10_advance_81 ?_
          refine lv_icmp_ge (tgt := 102) hx hb dX10_advance_84 (by decide) (fun c_56 => ?_) (fun c_56 => ?_)
          · have oc_56 := zk_le rfl rfl c_56
            refine lv_iconst (v := 0) hx hb dX10_advance_102 (by decide +kernel) ?_
            refine va_put (D := (dC, dI)) (ci := 10) (v := .int 0) (ty := .int) (C := RX10) (T := TX10) (N := 8) hx hb hts zn_X10_advance_X10 tyX10 tyX10_ok nmX10 hown hK hP hD hS 0 rfl rfl 4 (by decide) (hts (.fieldLink RX10 46 "ShortEnough$Words" "kind" "I") zw_X10_advance_264) (fun _ h9 => h9) rfl (by decide +kernel) rfl rfl (Nat.le_of_ble_eq_true rfl) dX10_advance_103 (fun H locs hP hD hS => ?_)
            have hP : va_P (dC, dI) vwCl [(h0, .inr (10, [.ref r0_0, .ref r0_1, .int v0_2, .int y27_h0_3, .int 0, .int y27_h0_3, .int v0_6, .int v0_7])), (r0_1, .inl (k1, 1200, .inl f1)), (r0_0, .inl (k2, 13, .inl f2))] H := hP
            have hD : va_D A [(h0, .inr (10, [.ref r0_0, .ref r0_1, .int v0_2, .int y27_h0_3, .int 0, .int y27_h0_3, .int v0_6, .int v0_7])), (r0_1, .inl (k1, 1200, .inl f1)), (r0_0, .inl (k2, 13, .inl f2))] := hD
            refine lv_aload_n hx hb dX10_advance_106 rfl (lv_at hl 2 rfl) ?_
            refine lv_iconst (v := 0) hx hb dX10_advance_107 (by decide +kernel) ?_
            refine va_put (D := (dC, dI)) (ci := 10) (v := .int 0) (ty := .int) (C := RX10) (T := TX10) (N := 8) hx hb hts zn_X10_advance_X10 tyX10 tyX10_ok nmX10 hown hK hP hD hS 0 rfl rfl 6 (by decide) (hts (.fieldLink RX10 59 "ShortEnough$Words" "value" "I") zw_X10_advance_268) (fun _ h9 => h9) rfl (by decide +kernel) rfl rfl (Nat.le_of_ble_eq_true rfl) dX10_advance_108 (fun H locs hP hD hS => ?_)
            have hP : va_P (dC, dI) vwCl [(h0, .inr (10, [.ref r0_0, .ref r0_1, .int v0_2, .int y27_h0_3, .int 0, .int y27_h0_3, .int 0, .int v0_7])), (r0_1, .inl (k1, 1200, .inl f1)), (r0_0, .inl (k2, 13, .inl f2))] H := hP
            have hD : va_D A [(h0, .inr (10, [.ref r0_0, .ref r0_1, .int v0_2, .int y27_h0_3, .int 0, .int y27_h0_3, .int 0, .int v0_7])), (r0_1, .inl (k1, 1200, .inl f1)), (r0_0, .inl (k2, 13, .inl f2))] := hD
            refine lv_iconst (v := 0) hx hb dX10_advance_111 (by decide +kernel) ?_
            refine lv_istore_n (lv' := [(3, .int 0), (2, .int 0), (1, .int v0_3), (0, .ref h0)]) hx hb dX10_advance_112 rfl hl (by decide) rfl (fun ls hl => ?_)
            refine lv_aload_n hx hb dX10_advance_113 rfl (lv_at hl 3 rfl) ?_
            refine va_get (D := (dC, dI)) (ci := 10) (v := .int y27_h0_3) (C := RX10) (T := TX10) (N := 8) hx hb hts zn_X10_advance_X10 hown hK hP 0 rfl rfl 3 (by decide) (hts (.fieldLink RX10 43 "ShortEnough$Words" "place" "I") zw_X10_advance_263) (fun _ h9 => h9) rfl dX10_advance_114 ?_
            refine lv_aload_n hx hb dX10_advance_117 rfl (lv_at hl 3 rfl) ?_
            refine va_get (D := (dC, dI)) (ci := 10) (v := .int v0_2) (C := RX10) (T := TX10) (N := 8) hx hb hts zn_X10_advance_X10 hown hK hP 0 rfl rfl 2 (by decide) (hts (.fieldLink RX10 40 "ShortEnough$Words" "length" "I") zw_X10_advance_265) (fun _ h9 => h9) rfl dX10_advance_118 ?_
            refine lv_icmp_ge (tgt := 185) hx hb dX10_advance_121 (by decide) (fun c_57 => ?_) (fun c_57 => by exfalso; have oc_57 := zk_nle rfl rfl c_57; omega)
            have oc_57 := zk_le rfl rfl c_57
            refine lv_iload_n hx hb dX10_advance_185 rfl (lv_at hl 1 rfl) ?_
            refine lv_if_eq (tgt := 217) hx hb dX10_advance_186 (by decide) (fun c_58 => ?_) (fun c_58 => by exfalso; have oc_58 := zk_ne (by decide +kernel : (0 : Int32).toInt = 0) (by decide +kernel : (0 : Int32).toInt = 0) c_58; omega)
            have oc_58 := zk_eq (by decide +kernel : (0 : Int32).toInt = 0) (by decide +kernel : (0 : Int32).toInt = 0) c_58
            refine lv_iconst (v := 0) hx hb dX10_advance_217 (by decide +kernel) ?_
            refine lv_istore (lv' := [(4, .int 0), (3, .int 0), (2, .int 0), (1, .int v0_3), (0, .ref h0)]) hx hb dX10_advance_218 hl (by decide) rfl (fun ls hl => ?_)
            refine lv_iload hx hb dX10_advance_220 (lv_at hl 0 rfl) ?_
            refine lv_if_ne (tgt := 253) hx hb dX10_advance_222 (by decide) (fun c_59 => by exfalso; have oc_59 := zk_ne (by decide +kernel : (0 : Int32).toInt = 0) (by decide +kernel : (0 : Int32).toInt = 0) c_59; omega) (fun c_59 => ?_)
            have oc_59 := zk_eq (by decide +kernel : (0 : Int32).toInt = 0) (by decide +kernel : (0 : Int32).toInt = 0) c_59
            refine lv_aload_n hx hb dX10_advance_225 rfl (lv_at hl 4 rfl) ?_
            refine va_get (D := (dC, dI)) (ci := 10) (v := .int 0) (C := RX10) (T := TX10) (N := 8) hx hb hts zn_X10_advance_X10 hown hK hP 0 rfl rfl 4 (by decide) (hts (.fieldLink RX10 46 "ShortEnough$Words" "kind" "I") zw_X10_advance_264) (fun _ h9 => h9) rfl dX10_advance_226 ?_
            refine lv_iconst (v := 1) hx hb dX10_advance_229 (by decide +kernel) ?_
            refine lv_icmp_ne (tgt := 239) hx hb dX10_advance_230 (by decide) (fun c_60 => ?_) (fun c_60 => by exfalso; have oc_60 := zk_eq (by decide +kernel : (0 : Int32).toInt = 0) (by decide +kernel : (1 : Int32).toInt = 1) c_60; omega)
            have oc_60 := zk_ne (by decide +kernel : (0 : Int32).toInt = 0) (by decide +kernel : (1 : Int32).toInt = 1) c_60
            refine lv_aload_n hx hb dX10_advance_239 rfl (lv_at hl 4 rfl) ?_
            refine va_get (D := (dC, dI)) (ci := 10) (v := .int 0) (C := RX10) (T := TX10) (N := 8) hx hb hts zn_X10_advance_X10 hown hK hP 0 rfl rfl 4 (by decide) (hts (.fieldLink RX10 46 "ShortEnough$Words" "kind" "I") zw_X10_advance_264) (fun _ h9 => h9) rfl dX10_advance_240 ?_
            refine lv_iconst (v := 2) hx hb dX10_advance_243 (by decide +kernel) ?_
            refine lv_icmp_ne (tgt := 258) hx hb dX10_advance_244 (by decide) (fun c_61 => ?_) (fun c_61 => by exfalso; have oc_61 := zk_eq (by decide +kernel : (0 : Int32).toInt = 0) (by decide +kernel : (2 : Int32).toInt = 2) c_61; omega)
            have oc_61 := zk_ne (by decide +kernel : (0 : Int32).toInt = 0) (by decide +kernel : (2 : Int32).toInt = 2) c_61
            refine lv_aload_n hx hb dX10_advance_258 rfl (lv_at hl 4 rfl) ?_
            refine lv_aload_n hx hb dX10_advance_259 rfl (lv_at hl 4 rfl) ?_
            refine va_get (D := (dC, dI)) (ci := 10) (v := .int 0) (C := RX10) (T := TX10) (N := 8) hx hb hts zn_X10_advance_X10 hown hK hP 0 rfl rfl 4 (by decide) (hts (.fieldLink RX10 46 "ShortEnough$Words" "kind" "I") zw_X10_advance_264) (fun _ h9 => h9) rfl dX10_advance_260 ?_
            refine lv_iconst (v := 1) hx hb dX10_advance_263 (by decide +kernel) ?_
            refine lv_icmp_ne (tgt := 278) hx hb dX10_advance_264 (by decide) (fun c_62 => ?_) (fun c_62 => by exfalso; have oc_62 := zk_eq (by decide +kernel : (0 : Int32).toInt = 0) (by decide +kernel : (1 : Int32).toInt = 1) c_62; omega)
            have oc_62 := zk_ne (by decide +kernel : (0 : Int32).toInt = 0) (by decide +kernel : (1 : Int32).toInt = 1) c_62
            refine lv_iconst (v := (-1)) hx hb dX10_advance_278 (by decide +kernel) ?_
            refine va_put (D := (dC, dI)) (ci := 10) (v := .int (-1)) (ty := .int) (C := RX10) (T := TX10) (N := 8) hx hb hts zn_X10_advance_X10 tyX10 tyX10_ok nmX10 hown hK hP hD hS 0 rfl rfl 7 (by decide) (hts (.fieldLink RX10 70 "ShortEnough$Words" "own" "I") zw_X10_advance_269) (fun _ h9 => h9) rfl (by decide +kernel) rfl rfl (Nat.le_of_ble_eq_true rfl) dX10_advance_279 (fun H locs hP hD hS => ?_)
            have hP : va_P (dC, dI) vwCl [(h0, .inr (10, [.ref r0_0, .ref r0_1, .int v0_2, .int y27_h0_3, .int 0, .int y27_h0_3, .int 0, .int (-1)])), (r0_1, .inl (k1, 1200, .inl f1)), (r0_0, .inl (k2, 13, .inl f2))] H := hP
            have hD : va_D A [(h0, .inr (10, [.ref r0_0, .ref r0_1, .int v0_2, .int y27_h0_3, .int 0, .int y27_h0_3, .int 0, .int (-1)])), (r0_1, .inl (k1, 1200, .inl f1)), (r0_0, .inl (k2, 13, .inl f2))] := hD
            have hP9 := hP.sub (ws' := [(h0, .inr (10, [.ref r0_0, .ref r0_1, .int v0_2, .int y27_h0_3, .int 0, .int y27_h0_3, .int 0, .int (-1)])), (r0_1, .inl (k1, 1200, .inl f1)), (r0_0, .inl (k2, 13, .inl f2))]) [0, 1, 2] rfl
            have hD9 := hD.sub (ws' := [(h0, .inr (10, [.ref r0_0, .ref r0_1, .int v0_2, .int y27_h0_3, .int 0, .int y27_h0_3, .int 0, .int (-1)])), (r0_1, .inl (k1, 1200, .inl f1)), (r0_0, .inl (k2, 13, .inl f2))]) [0, 1, 2] (by decide) rfl
            have hK9 := hK.sub (tys' := [(k1, .byte), (k2, .int)]) [0, 1] rfl
            rw [← hQ]
            exact W.vret hx hb hr (fun t ht hW => ⟨⟨((fun k => ([y27_h0_3, 0, y27_h0_3, 0, (-1)] : List Int32).getD k 0), (fun k => ([] : List (Nat → Int32)).getD k (fun _ => 0)), (fun k => ([] : List (Nat → Int64)).getD k (fun _ => 0))), rfl, ⟨(show (0 : Int) ≤ (y27_h0_3 : Int32).toInt ∧ (y27_h0_3 : Int32).toInt ≤ 1200 by omega), (show (0 : Int) ≤ (0 : Int32).toInt ∧ (0 : Int32).toInt ≤ 5 by decide +kernel), (show (0 : Int) ≤ (y27_h0_3 : Int32).toInt ∧ (y27_h0_3 : Int32).toInt ≤ 1200 by omega), (show (-1 : Int) ≤ ((-1) : Int32).toInt ∧ ((-1) : Int32).toInt ≤ 12 by decide +kernel), trivial⟩, by rw [ht]; exact hP9, va_K.moved hW.alike hK9, hD9⟩, hS.F ht⟩) hS.2.2 dX10_advance_282
          have oc_56 := zk_nle rfl rfl c_56
          refine lv_aload_n hx hb dX10_advance_87 rfl (lv_at hl 2 rfl) ?_
          refine va_get (D := (dC, dI)) (ci := 10) (v := .ref r0_1) (C := RX10) (T := TX10) (N := 8) hx hb hts zn_X10_advance_X10 hown hK hP 0 rfl rfl 1 (by decide) (hts (.fieldLink RX10 15 "ShortEnough$Words" "text" "[B") zw_X10_advance_266) (fun _ h9 => h9) rfl dX10_advance_88 ?_
          refine lv_aload_n hx hb dX10_advance_91 rfl (lv_at hl 2 rfl) ?_
          refine va_get (D := (dC, dI)) (ci := 10) (v := .int y27_h0_3) (C := RX10) (T := TX10) (N := 8) hx hb hts zn_X10_advance_X10 hown hK hP 0 rfl rfl 3 (by decide) (hts (.fieldLink RX10 43 "ShortEnough$Words" "place" "I") zw_X10_advance_263) (fun _ h9 => h9) rfl dX10_advance_92 ?_
          refine va_bald hx hb hK hP 1 0 rfl rfl (vp_in_iff.mpr ⟨by omega, by omega⟩) dX10_advance_95 ?_
          refine lv_topi (fun x_63 ex_63 => ?_)
          have hPc := hP.sub (ws' := []) [] rfl
          have hDc := hD.sub (ws' := []) [] (by decide) rfl
          have hKc := hK.sub (tys' := []) [] rfl
          have hFc := va_free (wc := []) hD hS hA [] rfl
          refine va_calli (va_runS (As := [.int x_63]) (rest := [.ref h0]) ⟨hx, hb, hml, hown, hts⟩ (zs_X10_kindOf l dC dI x_63  H.size) (va_cwS 1 hts gX10_advance_X10_kindOf rfl rfl rfl (by decide +kernel) ⟨Nat.le_of_ble_eq_true rfl, Nat.le_of_ble_eq_true rfl⟩) ⟨fun a U g mk q => by obtain ⟨q0, q1, qP, qK, qD⟩ := q; exact ⟨q0, q1, qP, va_K.moved (u := U) (U := U.calling g mk a) (Vm.Alike.refl U.vm) qK, qD⟩, fun U hU hW => ⟨rfl, by rw [hU], by rw [hU]; exact hPc, va_K.moved hW.alike hKc, hDc.weaken (fun _ _ _ _ => trivial)⟩⟩ rfl rfl hl.1 rfl (lv_room (Nat.le_of_ble_eq_true rfl)) dX10_advance_96 ⟨Nat.le_of_ble_eq_true rfl, Nat.le_of_ble_eq_true rfl⟩) hS (fun q _ h => hFc q h) hFc (fun r_64 u_65 t H1 locs ht hvm hw_66 hB hz1 hk1 hS => ?_)
          obtain ⟨hP1, hK1, hD1⟩ := hB
          rw [ht] at hP1
          have hK1 := va_K.moved hvm.symm hK1
          obtain ⟨hP, hD⟩ := va_join (wr := [(h0, .inr (10, [.ref r0_0, .ref r0_1, .int v0_2, .int y27_h0_3, .int v0_4, .int y27_h0_3, .int v0_6, .int v0_7])), (r0_1, .inl (k1, 1200, .inl f1)), (r0_0, .inl (k2, 13, .inl f2))]) (w1 := []) hP hD [] [0, 1, 2] rfl rfl (by decide) (by decide) hk1 hFc hP1 hD1
          have hK := hK
          generalize H1 = H at hP hS ⊢
          have hP := hP.sub (ws' := [(h0, .inr (10, [.ref r0_0, .ref r0_1, .int v0_2, .int y27_h0_3, .int v0_4, .int y27_h0_3, .int v0_6, .int v0_7])), (r0_1, .inl (k1, 1200, .inl f1)), (r0_0, .inl (k2, 13, .inl f2))]) [0, 1, 2] rfl
          have hD := hD.sub (ws' := [(h0, .inr (10, [.ref r0_0, .ref r0_1, .int v0_2, .int y27_h0_3, .int v0_4, .int y27_h0_3, .int v0_6, .int v0_7])), (r0_1, .inl (k1, 1200, .inl f1)), (r0_0, .inl (k2, 13, .inl f2))]) [0, 1, 2] (by decide) rfl
          have hP : va_P (dC, dI) vwCl [(h0, .inr (10, [.ref r0_0, .ref r0_1, .int v0_2, .int y27_h0_3, .int v0_4, .int y27_h0_3, .int v0_6, .int v0_7])), (r0_1, .inl (k1, 1200, .inl f1)), (r0_0, .inl (k2, 13, .inl f2))] H := hP
          have hD : va_D A [(h0, .inr (10, [.ref r0_0, .ref r0_1, .int v0_2, .int y27_h0_3, .int v0_4, .int y27_h0_3, .int v0_6, .int v0_7])), (r0_1, .inl (k1, 1200, .inl f1)), (r0_0, .inl (k2, 13, .inl f2))] := hD
          obtain ⟨hr_64, -⟩ := hw_66
          refine lv_goto (tgt := 103) hx hb dX10_advance_99 (by decide) ?_
          refine va_put (D := (dC, dI)) (ci := 10) (v := .int r_64) (ty := .int) (C := RX10) (T := TX10) (N := 8) hx hb hts zn_X10_advance_X10 tyX10 tyX10_ok nmX10 hown hK hP hD hS 0 rfl rfl 4 (by decide) (hts (.fieldLink RX10 46 "ShortEnough$Words" "kind" "I") zw_X10_advance_264) (fun _ h9 => h9) rfl (by decide +kernel) rfl rfl (Nat.le_of_ble_eq_true rfl) dX10_advance_103 (fun H locs hP hD hS => ?_)
          have hP : va_P (dC, dI) vwCl [(h0, .inr (10, [.ref r0_0, .ref r0_1, .int v0_2, .int y27_h0_3, .int r_64, .int y27_h0_3, .int v0_6, .int v0_7])), (r0_1, .inl (k1, 1200, .inl f1)), (r0_0, .inl (k2, 13, .inl f2))] H := hP
          have hD : va_D A [(h0, .inr (10, [.ref r0_0, .ref r0_1, .int v0_2, .int y27_h0_3, .int r_64, .int y27_h0_3, .int v0_6, .int v0_7])), (r0_1, .inl (k1, 1200, .inl f1)), (r0_0, .inl (k2, 13, .inl f2))] := hD
          refine lv_aload_n hx hb dX10_advance_106 rfl (lv_at hl 2 rfl) ?_
          refine lv_iconst (v := 0) hx hb dX10_advance_107 (by decide +kernel) ?_
          refine va_put (D := (dC, dI)) (ci := 10) (v := .int 0) (ty := .int) (C := RX10) (T := TX10) (N := 8) hx hb hts zn_X10_advance_X10 tyX10 tyX10_ok nmX10 hown hK hP hD hS 0 rfl rfl 6 (by decide) (hts (.fieldLink RX10 59 "ShortEnough$Words" "value" "I") zw_X10_advance_268) (fun _ h9 => h9) rfl (by decide +kernel) rfl rfl (Nat.le_of_ble_eq_true rfl) dX10_advance_108 (fun H locs hP hD hS => ?_)
          have hP : va_P (dC, dI) vwCl [(h0, .inr (10, [.ref r0_0, .ref r0_1, .int v0_2, .int y27_h0_3, .int r_64, .int y27_h0_3, .int 0, .int v0_7])), (r0_1, .inl (k1, 1200, .inl f1)), (r0_0, .inl (k2, 13, .inl f2))] H := hP
          have hD : va_D A [(h0, .inr (10, [.ref r0_0, .ref r0_1, .int v0_2, .int y27_h0_3, .int r_64, .int y27_h0_3, .int 0, .int v0_7])), (r0_1, .inl (k1, 1200, .inl f1)), (r0_0, .inl (k2, 13, .inl f2))] := hD
          refine lv_iconst (v := 0) hx hb dX10_advance_111 (by decide +kernel) ?_
          refine lv_istore_n (lv' := [(3, .int 0), (2, .int 0), (1, .int v0_3), (0, .ref h0)]) hx hb dX10_advance_112 rfl hl (by decide) rfl (fun ls hl => ?_)
          have lp113 : ∀ (n : Nat) (y113_3 : Int32) (y113_h0_3 : Int32) (y113_h0_6 : Int32) (H : Heap) (locs : List Loc) (ls : Array Slot), (0 : Int) ≤ y113_3.toInt + (0) → (0 : Int) ≤ y113_h0_3.toInt + (0) → (v0_3.toInt : Int) ≤ y113_h0_3.toInt + (0) → (y113_3.toInt : Int) ≤ 0 + (1200) → (y113_3.toInt : Int) ≤ v0_2.toInt + (0) → (y113_3.toInt : Int) ≤ y113_h0_3.toInt + (0) → (y113_h0_3.toInt : Int) ≤ 0 + (1200) → (y113_h0_3.toInt : Int) ≤ v0_2.toInt + (0) → (y113_h0_3.toInt : Int) ≤ y113_3.toInt + (1199) → (y27_h0_3.toInt : Int) ≤ y113_h0_3.toInt + (0) → 1201 - y113_3.toInt < n → va_P (dC, dI) vwCl [(h0, .inr (10, [.ref r0_0, .ref r0_1, .int v0_2, .int y113_h0_3, .int r_64, .int y27_h0_3, .int y113_h0_6, .int v0_7])), (r0_1, .inl (k1, 1200, .inl f1)), (r0_0, .inl (k2, 13, .inl f2))] H → va_D A [(h0, .inr (10, [.ref r0_0, .ref r0_1, .int v0_2, .int y113_h0_3, .int r_64, .int y27_h0_3, .int y113_h0_6, .int v0_7])), (r0_1, .inl (k1, 1200, .inl f1)), (r0_0, .inl (k2, 13, .inl f2))] → va_S A s.heap H locs → lv_has ls 5 [(3, .int y113_3), (2, .int 0), (1, .int v0_3), (0, .ref h0)] → W p l e (headSpec wsX10_advance ({ frames := 1, cells := 0, slots := 0, locals := 22 })).room s m ([.ref h0] : List Value).toArray below meth c H locs 0 0 Q (F0 m 113 ls []) := by
            intro n
            induction n with
            | zero =>
              intro y113_3 y113_h0_3 y113_h0_6 H locs ls hz113_0 hz113_1 hz113_2 hz113_3 hz113_4 hz113_5 hz113_6 hz113_7 hz113_8 hz113_9  hmeas hP hD hS hl
              exfalso; omega
            | succ n ih113 =>
              intro y113_3 y113_h0_3 y113_h0_6 H locs ls hz113_0 hz113_1 hz113_2 hz113_3 hz113_4 hz113_5 hz113_6 hz113_7 hz113_8 hz113_9  hmeas hP hD hS hl
              refine lv_aload_n hx hb dX10_advance_113 rfl (lv_at hl 3 rfl) ?_
              refine va_get (D := (dC, dI)) (ci := 10) (v := .int y113_h0_3) (C := RX10) (T := TX10) (N := 8) hx hb hts zn_X10_advance_X10 hown hK hP 0 rfl rfl 3 (by decide) (hts (.fieldLink RX10 43 "ShortEnough$Words" "place" "I") zw_X10_advance_263) (fun _ h9 => h9) rfl dX10_advance_114 ?_
              refine lv_aload_n hx hb dX10_advance_117 rfl (lv_at hl 3 rfl) ?_
              refine va_get (D := (dC, dI)) (ci := 10) (v := .int v0_2) (C := RX10) (T := TX10) (N := 8) hx hb hts zn_X10_advance_X10 hown hK hP 0 rfl rfl 2 (by decide) (hts (.fieldLink RX10 40 "ShortEnough$Words" "length" "I") zw_X10_advance_265) (fun _ h9 => h9) rfl dX10_advance_118 ?_
              have jp185_651 : ∀  (H : Heap) (locs : List Loc) (ls : Array Slot), va_P (dC, dI) vwCl [(h0, .inr (10, [.ref r0_0, .ref r0_1, .int v0_2, .int y113_h0_3, .int r_64, .int y27_h0_3, .int y113_h0_6, .int v0_7])), (r0_1, .inl (k1, 1200, .inl f1)), (r0_0, .inl (k2, 13, .inl f2))] H → va_D A [(h0, .inr (10, [.ref r0_0, .ref r0_1, .int v0_2, .int y113_h0_3, .int r_64, .int y27_h0_3, .int y113_h0_6, .int v0_7])), (r0_1, .inl (k1, 1200, .inl f1)), (r0_0, .inl (k2, 13, .inl f2))] → va_S A s.heap H locs → lv_has ls 5 [(3, .int y113_3), (2, .int 0), (1, .int v0_3), (0, .ref h0)] → W p l e (headSpec wsX10_advance ({ frames := 1, cells := 0, slots := 0, locals := 22 })).room s m ([.ref h0] : List Value).toArray below meth c H locs 0 0 Q (F0 m 185 ls []) := by
                intro H locs ls  hP hD hS hl
                refine lv_iload_n hx hb dX10_advance_185 rfl (lv_at hl 1 rfl) ?_
                refine lv_if_eq (tgt := 217) hx hb dX10_advance_186 (by decide) (fun c_67 => ?_) (fun c_67 => by exfalso; have oc_67 := zk_ne (by decide +kernel : (0 : Int32).toInt = 0) (by decide +kernel : (0 : Int32).toInt = 0) c_67; omega)
                have oc_67 := zk_eq (by decide +kernel : (0 : Int32).toInt = 0) (by decide +kernel : (0 : Int32).toInt = 0) c_67
                refine lv_iconst (v := 0) hx hb dX10_advance_217 (by decide +kernel) ?_
                refine lv_istore (lv' := [(4, .int 0), (3, .int y113_3), (2, .int 0), (1, .int v0_3), (0, .ref h0)]) hx hb dX10_advance_218 hl (by decide) rfl (fun ls hl => ?_)
                refine lv_iload hx hb dX10_advance_220 (lv_at hl 0 rfl) ?_
                refine lv_if_ne (tgt := 253) hx hb dX10_advance_222 (by decide) (fun c_68 => by exfalso; have oc_68 := zk_ne (by decide +kernel : (0 : Int32).toInt = 0) (by decide +kernel : (0 : Int32).toInt = 0) c_68; omega) (fun c_68 => ?_)
                have oc_68 := zk_eq (by decide +kernel : (0 : Int32).toInt = 0) (by decide +kernel : (0 : Int32).toInt = 0) c_68
                refine lv_aload_n hx hb dX10_advance_225 rfl (lv_at hl 4 rfl) ?_
                refine va_get (D := (dC, dI)) (ci := 10) (v := .int r_64) (C := RX10) (T := TX10) (N := 8) hx hb hts zn_X10_advance_X10 hown hK hP 0 rfl rfl 4 (by decide) (hts (.fieldLink RX10 46 "ShortEnough$Words" "kind" "I") zw_X10_advance_264) (fun _ h9 => h9) rfl dX10_advance_226 ?_
                refine lv_iconst (v := 1) hx hb dX10_advance_229 (by decide +kernel) ?_
                have jp239_652 : ∀  (H : Heap) (locs : List Loc) (ls : Array Slot), (y113_3.toInt : Int) ≤ r_64.toInt + (1198) → va_P (dC, dI) vwCl [(h0, .inr (10, [.ref r0_0, .ref r0_1, .int v0_2, .int y113_h0_3, .int r_64, .int y27_h0_3, .int y113_h0_6, .int v0_7])), (r0_1, .inl (k1, 1200, .inl f1)), (r0_0, .inl (k2, 13, .inl f2))] H → va_D A [(h0, .inr (10, [.ref r0_0, .ref r0_1, .int v0_2, .int y113_h0_3, .int r_64, .int y27_h0_3, .int y113_h0_6, .int v0_7])), (r0_1, .inl (k1, 1200, .inl f1)), (r0_0, .inl (k2, 13, .inl f2))] → va_S A s.heap H locs → lv_has ls 5 [(4, .int 0), (3, .int y113_3), (2, .int 0), (1, .int v0_3), (0, .ref h0)] → W p l e (headSpec wsX10_advance ({ frames := 1, cells := 0, slots := 0, locals := 22 })).room s m ([.ref h0] : List Value).toArray below meth c H locs 0 0 Q (F0 m 239 ls []) := by
                  intro H locs ls hj652_0  hP hD hS hl
                  refine lv_aload_n hx hb dX10_advance_239 rfl (lv_at hl 4 rfl) ?_
                  refine va_get (D := (dC, dI)) (ci := 10) (v := .int r_64) (C := RX10) (T := TX10) (N := 8) hx hb hts zn_X10_advance_X10 hown hK hP 0 rfl rfl 4 (by decide) (hts (.fieldLink RX10 46 "ShortEnough$Words" "kind" "I") zw_X10_advance_264) (fun _ h9 => h9) rfl dX10_advance_240 ?_
                  refine lv_iconst (v := 2) hx hb dX10_advance_243 (by decide +kernel) ?_
                  refine lv_icmp_ne (tgt := 258) hx hb dX10_advance_244 (by decide) (fun c_69 => ?_) (fun c_69 => ?_)
                  · have oc_69 := zk_ne rfl (by decide +kernel : (2 : Int32).toInt = 2) c_69
                    refine lv_aload_n hx hb dX10_advance_258 rfl (lv_at hl 4 rfl) ?_
                    refine lv_aload_n hx hb dX10_advance_259 rfl (lv_at hl 4 rfl) ?_
                    refine va_get (D := (dC, dI)) (ci := 10) (v := .int r_64) (C := RX10) (T := TX10) (N := 8) hx hb hts zn_X10_advance_X10 hown hK hP 0 rfl rfl 4 (by decide) (hts (.fieldLink RX10 46 "ShortEnough$Words" "kind" "I") zw_X10_advance_264) (fun _ h9 => h9) rfl dX10_advance_260 ?_
                    refine lv_iconst (v := 1) hx hb dX10_advance_263 (by decide +kernel) ?_
                    refine lv_icmp_ne (tgt := 278) hx hb dX10_advance_264 (by decide) (fun c_70 => ?_) (fun c_70 => ?_)
                    · have oc_70 := zk_ne rfl (by decide +kernel : (1 : Int32).toInt = 1) c_70
                      refine lv_iconst (v := (-1)) hx hb dX10_advance_278 (by decide +kernel) ?_
                      refine va_put (D := (dC, dI)) (ci := 10) (v := .int (-1)) (ty := .int) (C := RX10) (T := TX10) (N := 8) hx hb hts zn_X10_advance_X10 tyX10 tyX10_ok nmX10 hown hK hP hD hS 0 rfl rfl 7 (by decide) (hts (.fieldLink RX10 70 "ShortEnough$Words" "own" "I") zw_X10_advance_269) (fun _ h9 => h9) rfl (by decide +kernel) rfl rfl (Nat.le_of_ble_eq_true rfl) dX10_advance_279 (fun H locs hP hD hS => ?_)
                      have hP : va_P (dC, dI) vwCl [(h0, .inr (10, [.ref r0_0, .ref r0_1, .int v0_2, .int y113_h0_3, .int r_64, .int y27_h0_3, .int y113_h0_6, .int (-1)])), (r0_1, .inl (k1, 1200, .inl f1)), (r0_0, .inl (k2, 13, .inl f2))] H := hP
                      have hD : va_D A [(h0, .inr (10, [.ref r0_0, .ref r0_1, .int v0_2, .int y113_h0_3, .int r_64, .int y27_h0_3, .int y113_h0_6, .int (-1)])), (r0_1, .inl (k1, 1200, .inl f1)), (r0_0, .inl (k2, 13, .inl f2))] := hD
                      have hP9 := hP.sub (ws' := [(h0, .inr (10, [.ref r0_0, .ref r0_1, .int v0_2, .int y113_h0_3, .int r_64, .int y27_h0_3, .int y113_h0_6, .int (-1)])), (r0_1, .inl (k1, 1200, .inl f1)), (r0_0, .inl (k2, 13, .inl f2))]) [0, 1, 2] rfl
                      have hD9 := hD.sub (ws' := [(h0, .inr (10, [.ref r0_0, .ref r0_1, .int v0_2, .int y113_h0_3, .int r_64, .int y27_h0_3, .int y113_h0_6, .int (-1)])), (r0_1, .inl (k1, 1200, .inl f1)), (r0_0, .inl (k2, 13, .inl f2))]) [0, 1, 2] (by decide) rfl
                      have hK9 := hK.sub (tys' := [(k1, .byte), (k2, .int)]) [0, 1] rfl
                      rw [← hQ]
                      exact W.vret hx hb hr (fun t ht hW => ⟨⟨((fun k => ([y113_h0_3, r_64, y27_h0_3, y113_h0_6, (-1)] : List Int32).getD k 0), (fun k => ([] : List (Nat → Int32)).getD k (fun _ => 0)), (fun k => ([] : List (Nat → Int64)).getD k (fun _ => 0))), rfl, ⟨(show (0 : Int) ≤ (y113_h0_3 : Int32).toInt ∧ (y113_h0_3 : Int32).toInt ≤ 1200 by omega), (show (0 : Int) ≤ (r_64 : Int32).toInt ∧ (r_64 : Int32).toInt ≤ 5 by omega), (show (0 : Int) ≤ (y27_h0_3 : Int32).toInt ∧ (y27_h0_3 : Int32).toInt ≤ 1200 by omega), (show (-1 : Int) ≤ ((-1) : Int32).toInt ∧ ((-1) : Int32).toInt ≤ 12 by decide +kernel), trivial⟩, by rw [ht]; exact hP9, va_K.moved hW.alike hK9, hD9⟩, hS.F ht⟩) hS.2.2 dX10_advance_282
                    have oc_70 := zk_eq rfl (by decide +kernel : (1 : Int32).toInt = 1) c_70
                    refine lv_aload_n hx hb dX10_advance_267 rfl (lv_at hl 4 rfl) ?_
                    refine lv_aload_n hx hb dX10_advance_268 rfl (lv_at hl 4 rfl) ?_
                    refine va_get (D := (dC, dI)) (ci := 10) (v := .int y113_h0_6) (C := RX10) (T := TX10) (N := 8) hx hb hts zn_X10_advance_X10 hown hK hP 0 rfl rfl 6 (by decide) (hts (.fieldLink RX10 59 "ShortEnough$Words" "value" "I") zw_X10_advance_268) (fun _ h9 => h9) rfl dX10_advance_269 ?_
                    have hPc := hP.sub (ws' := [(h0, .inr (10, [.ref r0_0, .ref r0_1, .int v0_2, .int y113_h0_3, .int r_64, .int y27_h0_3, .int y113_h0_6, .int v0_7])), (r0_0, .inl (k2, 13, .inl f2))]) [0, 2] rfl
                    have hDc := hD.sub (ws' := [(h0, .inr (10, [.ref r0_0, .ref r0_1, .int v0_2, .int y113_h0_3, .int r_64, .int y27_h0_3, .int y113_h0_6, .int v0_7])), (r0_0, .inl (k2, 13, .inl f2))]) [0, 2] (by decide) rfl
                    have hKc := hK.sub (tys' := [(k2, .int)]) [1] rfl
                    have hFc := va_free (wc := [(h0, .inr (10, [.ref r0_0, .ref r0_1, .int v0_2, .int y113_h0_3, .int r_64, .int y27_h0_3, .int y113_h0_6, .int v0_7])), (r0_0, .inl (k2, 13, .inl f2))]) hD hS hA [0, 2] rfl
                    refine va_calli (va_runV (As := [.int y113_h0_6]) (rest := [.ref h0]) ⟨hx, hb, hml, hown, hts⟩ (zs_X10_findOwn l dC dI h0 y113_h0_6 r0_0 r0_1 v0_2 y113_h0_3 r_64 y27_h0_3 y113_h0_6 v0_7 k2 f2 (by omega) (by omega) (by omega) (by omega) (by omega) H.size) (cwV 1 hts gX10_advance_X10_findOwn rfl rfl rfl (by decide +kernel) ⟨Nat.le_of_ble_eq_true rfl, Nat.le_of_ble_eq_true rfl⟩) ⟨fun a U g mk q => by obtain ⟨q0, q1, qP, qK, qD⟩ := q; exact ⟨q0, q1, qP, va_K.moved (u := U) (U := U.calling g mk a) (Vm.Alike.refl U.vm) qK, qD⟩, va_recv hKc hPc (ci := 10) (q0 := 0) rfl rfl, fun U hU hW => ⟨rfl, by rw [hU], by rw [hU]; exact hPc, va_K.moved hW.alike hKc, hDc.weaken (fun _ _ _ _ => trivial)⟩⟩ rfl rfl hl.1 rfl (lv_room (Nat.le_of_ble_eq_true rfl)) dX10_advance_272 ⟨Nat.le_of_ble_eq_true rfl, Nat.le_of_ble_eq_true rfl⟩) hS (fun q _ h => hFc q h) hFc (fun r_71 u_72 t H1 locs ht hvm hw_73 hB hz1 hk1 hS => ?_)
                    obtain ⟨hP1, hK1, hD1⟩ := hB
                    rw [ht] at hP1
                    have hK1 := va_K.moved hvm.symm hK1
                    obtain ⟨hP, hD⟩ := va_join (wr := [(r0_1, .inl (k1, 1200, .inl f1))]) (w1 := [(h0, .inr (10, [.ref r0_0, .ref r0_1, .int v0_2, .int y113_h0_3, .int r_64, .int y27_h0_3, .int y113_h0_6, .int v0_7])), (r0_0, .inl (k2, 13, .inl f2))]) hP hD [0, 2] [1] rfl rfl (by decide) (by decide) hk1 hFc hP1 hD1
                    have hK := hK
                    generalize H1 = H at hP hS ⊢
                    have hP := hP.sub (ws' := [(h0, .inr (10, [.ref r0_0, .ref r0_1, .int v0_2, .int y113_h0_3, .int r_64, .int y27_h0_3, .int y113_h0_6, .int v0_7])), (r0_1, .inl (k1, 1200, .inl f1)), (r0_0, .inl (k2, 13, .inl f2))]) [1, 0, 2] rfl
                    have hD := hD.sub (ws' := [(h0, .inr (10, [.ref r0_0, .ref r0_1, .int v0_2, .int y113_h0_3, .int r_64, .int y27_h0_3, .int y113_h0_6, .int v0_7])), (r0_1, .inl (k1, 1200, .inl f1)), (r0_0, .inl (k2, 13, .inl f2))]) [1, 0, 2] (by decide) rfl
                    have hP : va_P (dC, dI) vwCl [(h0, .inr (10, [.ref r0_0, .ref r0_1, .int v0_2, .int y113_h0_3, .int r_64, .int y27_h0_3, .int y113_h0_6, .int v0_7])), (r0_1, .inl (k1, 1200, .inl f1)), (r0_0, .inl (k2, 13, .inl f2))] H := hP
                    have hD : va_D A [(h0, .inr (10, [.ref r0_0, .ref r0_1, .int v0_2, .int y113_h0_3, .int r_64, .int y27_h0_3, .int y113_h0_6, .int v0_7])), (r0_1, .inl (k1, 1200, .inl f1)), (r0_0, .inl (k2, 13, .inl f2))] := hD
                    obtain ⟨hr_71, -⟩ := hw_73
                    refine lv_goto (tgt := 279) hx hb dX10_advance_275 (by decide) ?_
                    refine va_put (D := (dC, dI)) (ci := 10) (v := .int r_71) (ty := .int) (C := RX10) (T := TX10) (N := 8) hx hb hts zn_X10_advance_X10 tyX10 tyX10_ok nmX10 hown hK hP hD hS 0 rfl rfl 7 (by decide) (hts (.fieldLink RX10 70 "ShortEnough$Words" "own" "I") zw_X10_advance_269) (fun _ h9 => h9) rfl (by decide +kernel) rfl rfl (Nat.le_of_ble_eq_true rfl) dX10_advance_279 (fun H locs hP hD hS => ?_)
                    have hP : va_P (dC, dI) vwCl [(h0, .inr (10, [.ref r0_0, .ref r0_1, .int v0_2, .int y113_h0_3, .int r_64, .int y27_h0_3, .int y113_h0_6, .int r_71])), (r0_1, .inl (k1, 1200, .inl f1)), (r0_0, .inl (k2, 13, .inl f2))] H := hP
                    have hD : va_D A [(h0, .inr (10, [.ref r0_0, .ref r0_1, .int v0_2, .int y113_h0_3, .int r_64, .int y27_h0_3, .int y113_h0_6, .int r_71])), (r0_1, .inl (k1, 1200, .inl f1)), (r0_0, .inl (k2, 13, .inl f2))] := hD
                    have hP9 := hP.sub (ws' := [(h0, .inr (10, [.ref r0_0, .ref r0_1, .int v0_2, .int y113_h0_3, .int r_64, .int y27_h0_3, .int y113_h0_6, .int r_71])), (r0_1, .inl (k1, 1200, .inl f1)), (r0_0, .inl (k2, 13, .inl f2))]) [0, 1, 2] rfl
                    have hD9 := hD.sub (ws' := [(h0, .inr (10, [.ref r0_0, .ref r0_1, .int v0_2, .int y113_h0_3, .int r_64, .int y27_h0_3, .int y113_h0_6, .int r_71])), (r0_1, .inl (k1, 1200, .inl f1)), (r0_0, .inl (k2, 13, .inl f2))]) [0, 1, 2] (by decide) rfl
                    have hK9 := hK.sub (tys' := [(k1, .byte), (k2, .int)]) [0, 1] rfl
                    rw [← hQ]
                    exact W.vret hx hb hr (fun t ht hW => ⟨⟨((fun k => ([y113_h0_3, r_64, y27_h0_3, y113_h0_6, r_71] : List Int32).getD k 0), (fun k => ([] : List (Nat → Int32)).getD k (fun _ => 0)), (fun k => ([] : List (Nat → Int64)).getD k (fun _ => 0))), rfl, ⟨(show (0 : Int) ≤ (y113_h0_3 : Int32).toInt ∧ (y113_h0_3 : Int32).toInt ≤ 1200 by omega), (show (0 : Int) ≤ (r_64 : Int32).toInt ∧ (r_64 : Int32).toInt ≤ 5 by omega), (show (0 : Int) ≤ (y27_h0_3 : Int32).toInt ∧ (y27_h0_3 : Int32).toInt ≤ 1200 by omega), (show (-1 : Int) ≤ (r_71 : Int32).toInt ∧ (r_71 : Int32).toInt ≤ 12 by omega), trivial⟩, by rw [ht]; exact hP9, va_K.moved hW.alike hK9, hD9⟩, hS.F ht⟩) hS.2.2 dX10_advance_282
                  have oc_69 := zk_eq rfl (by decide +kernel : (2 : Int32).toInt = 2) c_69
                  refine lv_iload_n hx hb dX10_advance_247 rfl (lv_at hl 1 rfl) ?_
                  refine lv_bipush (v := 8) hx hb dX10_advance_248 (by decide +kernel) ?_
                  refine lv_icmp_le (tgt := 258) hx hb dX10_advance_250 (by decide) (fun c_74 => ?_) (fun c_74 => ?_)
                  · have oc_74 := zk_le rfl (by decide +kernel : (8 : Int32).toInt = 8) c_74
                    refine lv_aload_n hx hb dX10_advance_258 rfl (lv_at hl 4 rfl) ?_
                    refine lv_aload_n hx hb dX10_advance_259 rfl (lv_at hl 4 rfl) ?_
                    refine va_get (D := (dC, dI)) (ci := 10) (v := .int r_64) (C := RX10) (T := TX10) (N := 8) hx hb hts zn_X10_advance_X10 hown hK hP 0 rfl rfl 4 (by decide) (hts (.fieldLink RX10 46 "ShortEnough$Words" "kind" "I") zw_X10_advance_264) (fun _ h9 => h9) rfl dX10_advance_260 ?_
                    refine lv_iconst (v := 1) hx hb dX10_advance_263 (by decide +kernel) ?_
                    refine lv_icmp_ne (tgt := 278) hx hb dX10_advance_264 (by decide) (fun c_75 => ?_) (fun c_75 => by exfalso; have oc_75 := zk_eq rfl (by decide +kernel : (1 : Int32).toInt = 1) c_75; omega)
                    have oc_75 := zk_ne rfl (by decide +kernel : (1 : Int32).toInt = 1) c_75
                    refine lv_iconst (v := (-1)) hx hb dX10_advance_278 (by decide +kernel) ?_
                    refine va_put (D := (dC, dI)) (ci := 10) (v := .int (-1)) (ty := .int) (C := RX10) (T := TX10) (N := 8) hx hb hts zn_X10_advance_X10 tyX10 tyX10_ok nmX10 hown hK hP hD hS 0 rfl rfl 7 (by decide) (hts (.fieldLink RX10 70 "ShortEnough$Words" "own" "I") zw_X10_advance_269) (fun _ h9 => h9) rfl (by decide +kernel) rfl rfl (Nat.le_of_ble_eq_true rfl) dX10_advance_279 (fun H locs hP hD hS => ?_)
                    have hP : va_P (dC, dI) vwCl [(h0, .inr (10, [.ref r0_0, .ref r0_1, .int v0_2, .int y113_h0_3, .int r_64, .int y27_h0_3, .int y113_h0_6, .int (-1)])), (r0_1, .inl (k1, 1200, .inl f1)), (r0_0, .inl (k2, 13, .inl f2))] H := hP
                    have hD : va_D A [(h0, .inr (10, [.ref r0_0, .ref r0_1, .int v0_2, .int y113_h0_3, .int r_64, .int y27_h0_3, .int y113_h0_6, .int (-1)])), (r0_1, .inl (k1, 1200, .inl f1)), (r0_0, .inl (k2, 13, .inl f2))] := hD
                    have hP9 := hP.sub (ws' := [(h0, .inr (10, [.ref r0_0, .ref r0_1, .int v0_2, .int y113_h0_3, .int r_64, .int y27_h0_3, .int y113_h0_6, .int (-1)])), (r0_1, .inl (k1, 1200, .inl f1)), (r0_0, .inl (k2, 13, .inl f2))]) [0, 1, 2] rfl
                    have hD9 := hD.sub (ws' := [(h0, .inr (10, [.ref r0_0, .ref r0_1, .int v0_2, .int y113_h0_3, .int r_64, .int y27_h0_3, .int y113_h0_6, .int (-1)])), (r0_1, .inl (k1, 1200, .inl f1)), (r0_0, .inl (k2, 13, .inl f2))]) [0, 1, 2] (by decide) rfl
                    have hK9 := hK.sub (tys' := [(k1, .byte), (k2, .int)]) [0, 1] rfl
                    rw [← hQ]
                    exact W.vret hx hb hr (fun t ht hW => ⟨⟨((fun k => ([y113_h0_3, r_64, y27_h0_3, y113_h0_6, (-1)] : List Int32).getD k 0), (fun k => ([] : List (Nat → Int32)).getD k (fun _ => 0)), (fun k => ([] : List (Nat → Int64)).getD k (fun _ => 0))), rfl, ⟨(show (0 : Int) ≤ (y113_h0_3 : Int32).toInt ∧ (y113_h0_3 : Int32).toInt ≤ 1200 by omega), (show (0 : Int) ≤ (r_64 : Int32).toInt ∧ (r_64 : Int32).toInt ≤ 5 by omega), (show (0 : Int) ≤ (y27_h0_3 : Int32).toInt ∧ (y27_h0_3 : Int32).toInt ≤ 1200 by omega), (show (-1 : Int) ≤ ((-1) : Int32).toInt ∧ ((-1) : Int32).toInt ≤ 12 by decide +kernel), trivial⟩, by rw [ht]; exact hP9, va_K.moved hW.alike hK9, hD9⟩, hS.F ht⟩) hS.2.2 dX10_advance_282
                  have oc_74 := zk_nle rfl (by decide +kernel : (8 : Int32).toInt = 8) c_74
                  refine lv_aload_n hx hb dX10_advance_253 rfl (lv_at hl 4 rfl) ?_
                  refine lv_iconst (v := 4) hx hb dX10_advance_254 (by decide +kernel) ?_
                  refine va_put (D := (dC, dI)) (ci := 10) (v := .int 4) (ty := .int) (C := RX10) (T := TX10) (N := 8) hx hb hts zn_X10_advance_X10 tyX10 tyX10_ok nmX10 hown hK hP hD hS 0 rfl rfl 4 (by decide) (hts (.fieldLink RX10 46 "ShortEnough$Words" "kind" "I") zw_X10_advance_264) (fun _ h9 => h9) rfl (by decide +kernel) rfl rfl (Nat.le_of_ble_eq_true rfl) dX10_advance_255 (fun H locs hP hD hS => ?_)
                  have hP : va_P (dC, dI) vwCl [(h0, .inr (10, [.ref r0_0, .ref r0_1, .int v0_2, .int y113_h0_3, .int 4, .int y27_h0_3, .int y113_h0_6, .int v0_7])), (r0_1, .inl (k1, 1200, .inl f1)), (r0_0, .inl (k2, 13, .inl f2))] H := hP
                  have hD : va_D A [(h0, .inr (10, [.ref r0_0, .ref r0_1, .int v0_2, .int y113_h0_3, .int 4, .int y27_h0_3, .int y113_h0_6, .int v0_7])), (r0_1, .inl (k1, 1200, .inl f1)), (r0_0, .inl (k2, 13, .inl f2))] := hD
                  refine lv_aload_n hx hb dX10_advance_258 rfl (lv_at hl 4 rfl) ?_
                  refine lv_aload_n hx hb dX10_advance_259 rfl (lv_at hl 4 rfl) ?_
                  refine va_get (D := (dC, dI)) (ci := 10) (v := .int 4) (C := RX10) (T := TX10) (N := 8) hx hb hts zn_X10_advance_X10 hown hK hP 0 rfl rfl 4 (by decide) (hts (.fieldLink RX10 46 "ShortEnough$Words" "kind" "I") zw_X10_advance_264) (fun _ h9 => h9) rfl dX10_advance_260 ?_
                  refine lv_iconst (v := 1) hx hb dX10_advance_263 (by decide +kernel) ?_
                  refine lv_icmp_ne (tgt := 278) hx hb dX10_advance_264 (by decide) (fun c_76 => ?_) (fun c_76 => by exfalso; have oc_76 := zk_eq (by decide +kernel : (4 : Int32).toInt = 4) (by decide +kernel : (1 : Int32).toInt = 1) c_76; omega)
                  have oc_76 := zk_ne (by decide +kernel : (4 : Int32).toInt = 4) (by decide +kernel : (1 : Int32).toInt = 1) c_76
                  refine lv_iconst (v := (-1)) hx hb dX10_advance_278 (by decide +kernel) ?_
                  refine va_put (D := (dC, dI)) (ci := 10) (v := .int (-1)) (ty := .int) (C := RX10) (T := TX10) (N := 8) hx hb hts zn_X10_advance_X10 tyX10 tyX10_ok nmX10 hown hK hP hD hS 0 rfl rfl 7 (by decide) (hts (.fieldLink RX10 70 "ShortEnough$Words" "own" "I") zw_X10_advance_269) (fun _ h9 => h9) rfl (by decide +kernel) rfl rfl (Nat.le_of_ble_eq_true rfl) dX10_advance_279 (fun H locs hP hD hS => ?_)
                  have hP : va_P (dC, dI) vwCl [(h0, .inr (10, [.ref r0_0, .ref r0_1, .int v0_2, .int y113_h0_3, .int 4, .int y27_h0_3, .int y113_h0_6, .int (-1)])), (r0_1, .inl (k1, 1200, .inl f1)), (r0_0, .inl (k2, 13, .inl f2))] H := hP
                  have hD : va_D A [(h0, .inr (10, [.ref r0_0, .ref r0_1, .int v0_2, .int y113_h0_3, .int 4, .int y27_h0_3, .int y113_h0_6, .int (-1)])), (r0_1, .inl (k1, 1200, .inl f1)), (r0_0, .inl (k2, 13, .inl f2))] := hD
                  have hP9 := hP.sub (ws' := [(h0, .inr (10, [.ref r0_0, .ref r0_1, .int v0_2, .int y113_h0_3, .int 4, .int y27_h0_3, .int y113_h0_6, .int (-1)])), (r0_1, .inl (k1, 1200, .inl f1)), (r0_0, .inl (k2, 13, .inl f2))]) [0, 1, 2] rfl
                  have hD9 := hD.sub (ws' := [(h0, .inr (10, [.ref r0_0, .ref r0_1, .int v0_2, .int y113_h0_3, .int 4, .int y27_h0_3, .int y113_h0_6, .int (-1)])), (r0_1, .inl (k1, 1200, .inl f1)), (r0_0, .inl (k2, 13, .inl f2))]) [0, 1, 2] (by decide) rfl
                  have hK9 := hK.sub (tys' := [(k1, .byte), (k2, .int)]) [0, 1] rfl
                  rw [← hQ]
                  exact W.vret hx hb hr (fun t ht hW => ⟨⟨((fun k => ([y113_h0_3, 4, y27_h0_3, y113_h0_6, (-1)] : List Int32).getD k 0), (fun k => ([] : List (Nat → Int32)).getD k (fun _ => 0)), (fun k => ([] : List (Nat → Int64)).getD k (fun _ => 0))), rfl, ⟨(show (0 : Int) ≤ (y113_h0_3 : Int32).toInt ∧ (y113_h0_3 : Int32).toInt ≤ 1200 by omega), (show (0 : Int) ≤ (4 : Int32).toInt ∧ (4 : Int32).toInt ≤ 5 by decide +kernel), (show (0 : Int) ≤ (y27_h0_3 : Int32).toInt ∧ (y27_h0_3 : Int32).toInt ≤ 1200 by omega), (show (-1 : Int) ≤ ((-1) : Int32).toInt ∧ ((-1) : Int32).toInt ≤ 12 by decide +kernel), trivial⟩, by rw [ht]; exact hP9, va_K.moved hW.alike hK9, hD9⟩, hS.F ht⟩) hS.2.2 dX10_advance_282
                refine lv_icmp_ne (tgt := 239) hx hb dX10_advance_230 (by decide) (fun c_77 => ?_) (fun c_77 => ?_)
                · have oc_77 := zk_ne rfl (by decide +kernel : (1 : Int32).toInt = 1) c_77
                  exact jp239_652   H locs ls (by omega)  hP hD hS (lv_sub hl [0, 1, 2, 3, 4] rfl)
                have oc_77 := zk_eq rfl (by decide +kernel : (1 : Int32).toInt = 1) c_77
                refine lv_iload_n hx hb dX10_advance_233 rfl (lv_at hl 1 rfl) ?_
                refine lv_bipush (v := 6) hx hb dX10_advance_234 (by decide +kernel) ?_
                refine lv_icmp_gt (tgt := 253) hx hb dX10_advance_236 (by decide) (fun c_78 => ?_) (fun c_78 => ?_)
                · have oc_78 := zk_lt (by decide +kernel : (6 : Int32).toInt = 6) rfl c_78
                  refine lv_aload_n hx hb dX10_advance_253 rfl (lv_at hl 4 rfl) ?_
                  refine lv_iconst (v := 4) hx hb dX10_advance_254 (by decide +kernel) ?_
                  refine va_put (D := (dC, dI)) (ci := 10) (v := .int 4) (ty := .int) (C := RX10) (T := TX10) (N := 8) hx hb hts zn_X10_advance_X10 tyX10 tyX10_ok nmX10 hown hK hP hD hS 0 rfl rfl 4 (by decide) (hts (.fieldLink RX10 46 "ShortEnough$Words" "kind" "I") zw_X10_advance_264) (fun _ h9 => h9) rfl (by decide +kernel) rfl rfl (Nat.le_of_ble_eq_true rfl) dX10_advance_255 (fun H locs hP hD hS => ?_)
                  have hP : va_P (dC, dI) vwCl [(h0, .inr (10, [.ref r0_0, .ref r0_1, .int v0_2, .int y113_h0_3, .int 4, .int y27_h0_3, .int y113_h0_6, .int v0_7])), (r0_1, .inl (k1, 1200, .inl f1)), (r0_0, .inl (k2, 13, .inl f2))] H := hP
                  have hD : va_D A [(h0, .inr (10, [.ref r0_0, .ref r0_1, .int v0_2, .int y113_h0_3, .int 4, .int y27_h0_3, .int y113_h0_6, .int v0_7])), (r0_1, .inl (k1, 1200, .inl f1)), (r0_0, .inl (k2, 13, .inl f2))] := hD
                  refine lv_aload_n hx hb dX10_advance_258 rfl (lv_at hl 4 rfl) ?_
                  refine lv_aload_n hx hb dX10_advance_259 rfl (lv_at hl 4 rfl) ?_
                  refine va_get (D := (dC, dI)) (ci := 10) (v := .int 4) (C := RX10) (T := TX10) (N := 8) hx hb hts zn_X10_advance_X10 hown hK hP 0 rfl rfl 4 (by decide) (hts (.fieldLink RX10 46 "ShortEnough$Words" "kind" "I") zw_X10_advance_264) (fun _ h9 => h9) rfl dX10_advance_260 ?_
                  refine lv_iconst (v := 1) hx hb dX10_advance_263 (by decide +kernel) ?_
                  refine lv_icmp_ne (tgt := 278) hx hb dX10_advance_264 (by decide) (fun c_79 => ?_) (fun c_79 => by exfalso; have oc_79 := zk_eq (by decide +kernel : (4 : Int32).toInt = 4) (by decide +kernel : (1 : Int32).toInt = 1) c_79; omega)
                  have oc_79 := zk_ne (by decide +kernel : (4 : Int32).toInt = 4) (by decide +kernel : (1 : Int32).toInt = 1) c_79
                  refine lv_iconst (v := (-1)) hx hb dX10_advance_278 (by decide +kernel) ?_
                  refine va_put (D := (dC, dI)) (ci := 10) (v := .int (-1)) (ty := .int) (C := RX10) (T := TX10) (N := 8) hx hb hts zn_X10_advance_X10 tyX10 tyX10_ok nmX10 hown hK hP hD hS 0 rfl rfl 7 (by decide) (hts (.fieldLink RX10 70 "ShortEnough$Words" "own" "I") zw_X10_advance_269) (fun _ h9 => h9) rfl (by decide +kernel) rfl rfl (Nat.le_of_ble_eq_true rfl) dX10_advance_279 (fun H locs hP hD hS => ?_)
                  have hP : va_P (dC, dI) vwCl [(h0, .inr (10, [.ref r0_0, .ref r0_1, .int v0_2, .int y113_h0_3, .int 4, .int y27_h0_3, .int y113_h0_6, .int (-1)])), (r0_1, .inl (k1, 1200, .inl f1)), (r0_0, .inl (k2, 13, .inl f2))] H := hP
                  have hD : va_D A [(h0, .inr (10, [.ref r0_0, .ref r0_1, .int v0_2, .int y113_h0_3, .int 4, .int y27_h0_3, .int y113_h0_6, .int (-1)])), (r0_1, .inl (k1, 1200, .inl f1)), (r0_0, .inl (k2, 13, .inl f2))] := hD
                  have hP9 := hP.sub (ws' := [(h0, .inr (10, [.ref r0_0, .ref r0_1, .int v0_2, .int y113_h0_3, .int 4, .int y27_h0_3, .int y113_h0_6, .int (-1)])), (r0_1, .inl (k1, 1200, .inl f1)), (r0_0, .inl (k2, 13, .inl f2))]) [0, 1, 2] rfl
                  have hD9 := hD.sub (ws' := [(h0, .inr (10, [.ref r0_0, .ref r0_1, .int v0_2, .int y113_h0_3, .int 4, .int y27_h0_3, .int y113_h0_6, .int (-1)])), (r0_1, .inl (k1, 1200, .inl f1)), (r0_0, .inl (k2, 13, .inl f2))]) [0, 1, 2] (by decide) rfl
                  have hK9 := hK.sub (tys' := [(k1, .byte), (k2, .int)]) [0, 1] rfl
                  rw [← hQ]
                  exact W.vret hx hb hr (fun t ht hW => ⟨⟨((fun k => ([y113_h0_3, 4, y27_h0_3, y113_h0_6, (-1)] : List Int32).getD k 0), (fun k => ([] : List (Nat → Int32)).getD k (fun _ => 0)), (fun k => ([] : List (Nat → Int64)).getD k (fun _ => 0))), rfl, ⟨(show (0 : Int) ≤ (y113_h0_3 : Int32).toInt ∧ (y113_h0_3 : Int32).toInt ≤ 1200 by omega), (show (0 : Int) ≤ (4 : Int32).toInt ∧ (4 : Int32).toInt ≤ 5 by decide +kernel), (show (0 : Int) ≤ (y27_h0_3 : Int32).toInt ∧ (y27_h0_3 : Int32).toInt ≤ 1200 by omega), (show (-1 : Int) ≤ ((-1) : Int32).toInt ∧ ((-1) : Int32).toInt ≤ 12 by decide +kernel), trivial⟩, by rw [ht]; exact hP9, va_K.moved hW.alike hK9, hD9⟩, hS.F ht⟩) hS.2.2 dX10_advance_282
                have oc_78 := zk_nlt (by decide +kernel : (6 : Int32).toInt = 6) rfl c_78
                exact jp239_652   H locs ls (by omega)  hP hD hS (lv_sub hl [0, 1, 2, 3, 4] rfl)
              refine lv_icmp_ge (tgt := 185) hx hb dX10_advance_121 (by decide) (fun c_80 => ?_) (fun c_80 => ?_)
              · have oc_80 := zk_le rfl rfl c_80
                exact jp185_651   H locs ls  hP hD hS (lv_sub hl [0, 1, 2, 3] rfl)
              have oc_80 := zk_nle rfl rfl c_80
              refine lv_aload_n hx hb dX10_advance_124 rfl (lv_at hl 3 rfl) ?_
              refine va_get (D := (dC, dI)) (ci := 10) (v := .ref r0_1) (C := RX10) (T := TX10) (N := 8) hx hb hts zn_X10_advance_X10 hown hK hP 0 rfl rfl 1 (by decide) (hts (.fieldLink RX10 15 "ShortEnough$Words" "text" "[B") zw_X10_advance_266) (fun _ h9 => h9) rfl dX10_advance_125 ?_
              refine lv_aload_n hx hb dX10_advance_128 rfl (lv_at hl 3 rfl) ?_
              refine va_get (D := (dC, dI)) (ci := 10) (v := .int y113_h0_3) (C := RX10) (T := TX10) (N := 8) hx hb hts zn_X10_advance_X10 hown hK hP 0 rfl rfl 3 (by decide) (hts (.fieldLink RX10 43 "ShortEnough$Words" "place" "I") zw_X10_advance_263) (fun _ h9 => h9) rfl dX10_advance_129 ?_
              refine va_bald hx hb hK hP 1 0 rfl rfl (vp_in_iff.mpr ⟨by omega, by omega⟩) dX10_advance_132 ?_
              refine lv_topi (fun x_81 ex_81 => ?_)
              have hPc := hP.sub (ws' := []) [] rfl
              have hDc := hD.sub (ws' := []) [] (by decide) rfl
              have hKc := hK.sub (tys' := []) [] rfl
              have hFc := va_free (wc := []) hD hS hA [] rfl
              refine va_calli (va_runS (As := [.int x_81]) (rest := []) ⟨hx, hb, hml, hown, hts⟩ (zs_X10_kindOf l dC dI x_81  H.size) (va_cwS 1 hts gX10_advance_X10_kindOf rfl rfl rfl (by decide +kernel) ⟨Nat.le_of_ble_eq_true rfl, Nat.le_of_ble_eq_true rfl⟩) ⟨fun a U g mk q => by obtain ⟨q0, q1, qP, qK, qD⟩ := q; exact ⟨q0, q1, qP, va_K.moved (u := U) (U := U.calling g mk a) (Vm.Alike.refl U.vm) qK, qD⟩, fun U hU hW => ⟨rfl, by rw [hU], by rw [hU]; exact hPc, va_K.moved hW.alike hKc, hDc.weaken (fun _ _ _ _ => trivial)⟩⟩ rfl rfl hl.1 rfl (lv_room (Nat.le_of_ble_eq_true rfl)) dX10_advance_133 ⟨Nat.le_of_ble_eq_true rfl, Nat.le_of_ble_eq_true rfl⟩) hS (fun q _ h => hFc q h) hFc (fun r_82 u_83 t H1 locs ht hvm hw_84 hB hz1 hk1 hS => ?_)
              obtain ⟨hP1, hK1, hD1⟩ := hB
              rw [ht] at hP1
              have hK1 := va_K.moved hvm.symm hK1
              obtain ⟨hP, hD⟩ := va_join (wr := [(h0, .inr (10, [.ref r0_0, .ref r0_1, .int v0_2, .int y113_h0_3, .int r_64, .int y27_h0_3, .int y113_h0_6, .int v0_7])), (r0_1, .inl (k1, 1200, .inl f1)), (r0_0, .inl (k2, 13, .inl f2))]) (w1 := []) hP hD [] [0, 1, 2] rfl rfl (by decide) (by decide) hk1 hFc hP1 hD1
              have hK := hK
              generalize H1 = H at hP hS ⊢
              have hP := hP.sub (ws' := [(h0, .inr (10, [.ref r0_0, .ref r0_1, .int v0_2, .int y113_h0_3, .int r_64, .int y27_h0_3, .int y113_h0_6, .int v0_7])), (r0_1, .inl (k1, 1200, .inl f1)), (r0_0, .inl (k2, 13, .inl f2))]) [0, 1, 2] rfl
              have hD := hD.sub (ws' := [(h0, .inr (10, [.ref r0_0, .ref r0_1, .int v0_2, .int y113_h0_3, .int r_64, .int y27_h0_3, .int y113_h0_6, .int v0_7])), (r0_1, .inl (k1, 1200, .inl f1)), (r0_0, .inl (k2, 13, .inl f2))]) [0, 1, 2] (by decide) rfl
              have hP : va_P (dC, dI) vwCl [(h0, .inr (10, [.ref r0_0, .ref r0_1, .int v0_2, .int y113_h0_3, .int r_64, .int y27_h0_3, .int y113_h0_6, .int v0_7])), (r0_1, .inl (k1, 1200, .inl f1)), (r0_0, .inl (k2, 13, .inl f2))] H := hP
              have hD : va_D A [(h0, .inr (10, [.ref r0_0, .ref r0_1, .int v0_2, .int y113_h0_3, .int r_64, .int y27_h0_3, .int y113_h0_6, .int v0_7])), (r0_1, .inl (k1, 1200, .inl f1)), (r0_0, .inl (k2, 13, .inl f2))] := hD
              obtain ⟨hr_82, -⟩ := hw_84
              refine lv_aload_n hx hb dX10_advance_136 rfl (lv_at hl 3 rfl) ?_
              refine va_get (D := (dC, dI)) (ci := 10) (v := .int r_64) (C := RX10) (T := TX10) (N := 8) hx hb hts zn_X10_advance_X10 hown hK hP 0 rfl rfl 4 (by decide) (hts (.fieldLink RX10 46 "ShortEnough$Words" "kind" "I") zw_X10_advance_264) (fun _ h9 => h9) rfl dX10_advance_137 ?_
              have jp185_654 : ∀  (H : Heap) (locs : List Loc) (ls : Array Slot), va_P (dC, dI) vwCl [(h0, .inr (10, [.ref r0_0, .ref r0_1, .int v0_2, .int y113_h0_3, .int r_64, .int y27_h0_3, .int y113_h0_6, .int v0_7])), (r0_1, .inl (k1, 1200, .inl f1)), (r0_0, .inl (k2, 13, .inl f2))] H → va_D A [(h0, .inr (10, [.ref r0_0, .ref r0_1, .int v0_2, .int y113_h0_3, .int r_64, .int y27_h0_3, .int y113_h0_6, .int v0_7])), (r0_1, .inl (k1, 1200, .inl f1)), (r0_0, .inl (k2, 13, .inl f2))] → va_S A s.heap H locs → lv_has ls 5 [(3, .int y113_3), (2, .int 0), (1, .int v0_3), (0, .ref h0)] → W p l e (headSpec wsX10_advance ({ frames := 1, cells := 0, slots := 0, locals := 22 })).room s m ([.ref h0] : List Value).toArray below meth c H locs 0 0 Q (F0 m 185 ls []) := by
                intro H locs ls  hP hD hS hl
                exact jp185_651   H locs ls  hP hD hS (lv_sub hl [0, 1, 2, 3] rfl)
              refine lv_icmp_ne (tgt := 185) hx hb dX10_advance_140 (by decide) (fun c_85 => ?_) (fun c_85 => ?_)
              · have oc_85 := zk_ne rfl rfl c_85
                exact jp185_654   H locs ls  hP hD hS (lv_sub hl [0, 1, 2, 3] rfl)
              have oc_85 := zk_eq rfl rfl c_85
              refine lv_aload_n hx hb dX10_advance_143 rfl (lv_at hl 3 rfl) ?_
              refine va_get (D := (dC, dI)) (ci := 10) (v := .int r_64) (C := RX10) (T := TX10) (N := 8) hx hb hts zn_X10_advance_X10 hown hK hP 0 rfl rfl 4 (by decide) (hts (.fieldLink RX10 46 "ShortEnough$Words" "kind" "I") zw_X10_advance_264) (fun _ h9 => h9) rfl dX10_advance_144 ?_
              refine lv_iconst (v := 3) hx hb dX10_advance_147 (by decide +kernel) ?_
              have jp155_655 : ∀  (H : Heap) (locs : List Loc) (ls : Array Slot), va_P (dC, dI) vwCl [(h0, .inr (10, [.ref r0_0, .ref r0_1, .int v0_2, .int y113_h0_3, .int r_64, .int y27_h0_3, .int y113_h0_6, .int v0_7])), (r0_1, .inl (k1, 1200, .inl f1)), (r0_0, .inl (k2, 13, .inl f2))] H → va_D A [(h0, .inr (10, [.ref r0_0, .ref r0_1, .int v0_2, .int y113_h0_3, .int r_64, .int y27_h0_3, .int y113_h0_6, .int v0_7])), (r0_1, .inl (k1, 1200, .inl f1)), (r0_0, .inl (k2, 13, .inl f2))] → va_S A s.heap H locs → lv_has ls 5 [(3, .int y113_3), (2, .int 0), (1, .int v0_3), (0, .ref h0)] → W p l e (headSpec wsX10_advance ({ frames := 1, cells := 0, slots := 0, locals := 22 })).room s m ([.ref h0] : List Value).toArray below meth c H locs 0 0 Q (F0 m 155 ls []) := by
                intro H locs ls  hP hD hS hl
                obtain ⟨x_86, ex_86⟩ : ∃ y : Int32, y = y113_3 + 1 := ⟨_, rfl⟩
                refine lv_iinc (v := x_86) (lv' := [(3, .int x_86), (2, .int 0), (1, .int v0_3), (0, .ref h0)]) hx hb dX10_advance_155 hl (k := 0) rfl (by rw [ex_86]; rfl) (by decide) rfl (fun ls hl => ?_)
                have hx_86 := zo_add ex_86 rfl (by decide +kernel : (1 : Int32).toInt = 1) (by omega)
                refine lv_aload_n hx hb dX10_advance_158 rfl (lv_at hl 3 rfl) ?_
                refine lv_aload_n hx hb dX10_advance_159 rfl (lv_at hl 3 rfl) ?_
                refine va_get (D := (dC, dI)) (ci := 10) (v := .ref r0_1) (C := RX10) (T := TX10) (N := 8) hx hb hts zn_X10_advance_X10 hown hK hP 0 rfl rfl 1 (by decide) (hts (.fieldLink RX10 15 "ShortEnough$Words" "text" "[B") zw_X10_advance_266) (fun _ h9 => h9) rfl dX10_advance_160 ?_
                refine lv_aload_n hx hb dX10_advance_163 rfl (lv_at hl 3 rfl) ?_
                refine va_get (D := (dC, dI)) (ci := 10) (v := .int y113_h0_3) (C := RX10) (T := TX10) (N := 8) hx hb hts zn_X10_advance_X10 hown hK hP 0 rfl rfl 3 (by decide) (hts (.fieldLink RX10 43 "ShortEnough$Words" "place" "I") zw_X10_advance_263) (fun _ h9 => h9) rfl dX10_advance_164 ?_
                refine va_bald hx hb hK hP 1 0 rfl rfl (vp_in_iff.mpr ⟨by omega, by omega⟩) dX10_advance_167 ?_
                refine lv_topi (fun x_87 ex_87 => ?_)
                refine lv_iload_n hx hb dX10_advance_168 rfl (lv_at hl 0 rfl) ?_
                have hPc := hP.sub (ws' := [(h0, .inr (10, [.ref r0_0, .ref r0_1, .int v0_2, .int y113_h0_3, .int r_64, .int y27_h0_3, .int y113_h0_6, .int v0_7]))]) [0] rfl
                have hDc := hD.sub (ws' := [(h0, .inr (10, [.ref r0_0, .ref r0_1, .int v0_2, .int y113_h0_3, .int r_64, .int y27_h0_3, .int y113_h0_6, .int v0_7]))]) [0] (by decide) rfl
                have hKc := hK.sub (tys' := []) [] rfl
                have hFc := va_free (wc := [(h0, .inr (10, [.ref r0_0, .ref r0_1, .int v0_2, .int y113_h0_3, .int r_64, .int y27_h0_3, .int y113_h0_6, .int v0_7]))]) hD hS hA [0] rfl
                refine va_callv (va_runV (As := [.int x_87, .int x_86]) (rest := []) ⟨hx, hb, hml, hown, hts⟩ (zs_X10_addByte l dC dI h0 x_87 x_86 r0_0 r0_1 v0_2 y113_h0_3 r_64 y27_h0_3 y113_h0_6 v0_7 (by omega) (by omega) (by omega) (by omega) (by omega) H.size) (cwV 2 hts gX10_advance_X10_addByte rfl rfl rfl (by decide +kernel) ⟨Nat.le_of_ble_eq_true rfl, Nat.le_of_ble_eq_true rfl⟩) ⟨fun a U g mk q => by obtain ⟨q0, q1, qP, qK, qD⟩ := q; exact ⟨q0, q1, qP, va_K.moved (u := U) (U := U.calling g mk a) (Vm.Alike.refl U.vm) qK, qD⟩, va_recv hKc hPc (ci := 10) (q0 := 0) rfl rfl, fun U hU hW => ⟨rfl, by rw [hU], by rw [hU]; exact hPc, va_K.moved hW.alike hKc, hDc.weaken (fun _ _ _ _ => trivial)⟩⟩ rfl rfl hl.1 rfl (lv_room (Nat.le_of_ble_eq_true rfl)) dX10_advance_169 ⟨Nat.le_of_ble_eq_true rfl, Nat.le_of_ble_eq_true rfl⟩) hS (fun q _ h => hFc q h) hFc (fun u_89 t H1 locs ht hvm hw_90 hB hz1 hk1 hS => ?_)
                obtain ⟨hP1, hK1, hD1⟩ := hB
                rw [ht] at hP1
                have hK1 := va_K.moved hvm.symm hK1
                obtain ⟨hP, hD⟩ := va_join (wr := [(r0_1, .inl (k1, 1200, .inl f1)), (r0_0, .inl (k2, 13, .inl f2))]) (w1 := [(h0, .inr (10, [.ref r0_0, .ref r0_1, .int v0_2, .int y113_h0_3, .int r_64, .int y27_h0_3, .int (u_89.1 0), .int v0_7]))]) hP hD [0] [1, 2] rfl rfl (by decide) (by decide) hk1 hFc hP1 hD1
                have hK := hK
                generalize H1 = H at hP hS ⊢
                have hP := hP.sub (ws' := [(h0, .inr (10, [.ref r0_0, .ref r0_1, .int v0_2, .int y113_h0_3, .int r_64, .int y27_h0_3, .int (u_89.1 0), .int v0_7])), (r0_1, .inl (k1, 1200, .inl f1)), (r0_0, .inl (k2, 13, .inl f2))]) [2, 0, 1] rfl
                have hD := hD.sub (ws' := [(h0, .inr (10, [.ref r0_0, .ref r0_1, .int v0_2, .int y113_h0_3, .int r_64, .int y27_h0_3, .int (u_89.1 0), .int v0_7])), (r0_1, .inl (k1, 1200, .inl f1)), (r0_0, .inl (k2, 13, .inl f2))]) [2, 0, 1] (by decide) rfl
                have hP : va_P (dC, dI) vwCl [(h0, .inr (10, [.ref r0_0, .ref r0_1, .int v0_2, .int y113_h0_3, .int r_64, .int y27_h0_3, .int (u_89.1 0), .int v0_7])), (r0_1, .inl (k1, 1200, .inl f1)), (r0_0, .inl (k2, 13, .inl f2))] H := hP
                have hD : va_D A [(h0, .inr (10, [.ref r0_0, .ref r0_1, .int v0_2, .int y113_h0_3, .int r_64, .int y27_h0_3, .int (u_89.1 0), .int v0_7])), (r0_1, .inl (k1, 1200, .inl f1)), (r0_0, .inl (k2, 13, .inl f2))] := hD
                refine lv_aload_n hx hb dX10_advance_172 rfl (lv_at hl 3 rfl) ?_
                refine lv_dup hx hb dX10_advance_173 rfl ?_
                refine va_get (D := (dC, dI)) (ci := 10) (v := .int y113_h0_3) (C := RX10) (T := TX10) (N := 8) hx hb hts zn_X10_advance_X10 hown hK hP 0 rfl rfl 3 (by decide) (hts (.fieldLink RX10 43 "ShortEnough$Words" "place" "I") zw_X10_advance_263) (fun _ h9 => h9) rfl dX10_advance_174 ?_
                refine lv_iconst (v := 1) hx hb dX10_advance_177 (by decide +kernel) ?_
                refine lv_iadd hx hb dX10_advance_178 ?_
                refine lv_topi (fun x_91 ex_91 => ?_)
                have hx_91 := zo_add ex_91 rfl (by decide +kernel : (1 : Int32).toInt = 1) (by omega)
                refine va_put (D := (dC, dI)) (ci := 10) (v := .int x_91) (ty := .int) (C := RX10) (T := TX10) (N := 8) hx hb hts zn_X10_advance_X10 tyX10 tyX10_ok nmX10 hown hK hP hD hS 0 rfl rfl 3 (by decide) (hts (.fieldLink RX10 43 "ShortEnough$Words" "place" "I") zw_X10_advance_263) (fun _ h9 => h9) rfl (by decide +kernel) rfl rfl (Nat.le_of_ble_eq_true rfl) dX10_advance_179 (fun H locs hP hD hS => ?_)
                have hP : va_P (dC, dI) vwCl [(h0, .inr (10, [.ref r0_0, .ref r0_1, .int v0_2, .int x_91, .int r_64, .int y27_h0_3, .int (u_89.1 0), .int v0_7])), (r0_1, .inl (k1, 1200, .inl f1)), (r0_0, .inl (k2, 13, .inl f2))] H := hP
                have hD : va_D A [(h0, .inr (10, [.ref r0_0, .ref r0_1, .int v0_2, .int x_91, .int r_64, .int y27_h0_3, .int (u_89.1 0), .int v0_7])), (r0_1, .inl (k1, 1200, .inl f1)), (r0_0, .inl (k2, 13, .inl f2))] := hD
                refine lv_goto (tgt := 113) hx hb dX10_advance_182 (by decide) ?_
                exact ih113  x_86 x_91 (u_89.1 0) H locs ls (by omega) (by omega) (by omega) (by omega) (by omega) (by omega) (by omega) (by omega) (by omega) (by omega)  (by omega) hP hD hS (lv_sub hl [0, 1, 2, 3] rfl)
              refine lv_icmp_ne (tgt := 155) hx hb dX10_advance_148 (by decide) (fun c_92 => ?_) (fun c_92 => ?_)
              · have oc_92 := zk_ne rfl (by decide +kernel : (3 : Int32).toInt = 3) c_92
                exact jp155_655   H locs ls  hP hD hS (lv_sub hl [0, 1, 2, 3] rfl)
              have oc_92 := zk_eq rfl (by decide +kernel : (3 : Int32).toInt = 3) c_92
              refine lv_iload_n hx hb dX10_advance_151 rfl (lv_at hl 0 rfl) ?_
              refine lv_if_ne (tgt := 185) hx hb dX10_advance_152 (by decide) (fun c_93 => ?_) (fun c_93 => ?_)
              · have oc_93 := zk_ne rfl (by decide +kernel : (0 : Int32).toInt = 0) c_93
                exact jp185_654   H locs ls  hP hD hS (lv_sub hl [0, 1, 2, 3] rfl)
              have oc_93 := zk_eq rfl (by decide +kernel : (0 : Int32).toInt = 0) c_93
              exact jp155_655   H locs ls  hP hD hS (lv_sub hl [0, 1, 2, 3] rfl)
          have kk0 : (0 : Int32).toInt = 0 := (by decide +kernel)
          exact lp113 ((1201 - (0 : Int32).toInt).toNat + 1) 0 y27_h0_3 0 H locs ls (by omega) (by omega) (by omega) (by omega) (by omega) (by omega) (by omega) (by omega) (by omega) (by omega)  (by omega) hP hD hS (lv_sub hl [0, 1, 2, 3] rfl)
        refine lv_icmp_ge (tgt := 67) hx hb dX10_advance_35 (by decide) (fun c_94 => ?_) (fun c_94 => ?_)
        · have oc_94 := zk_le rfl rfl c_94
          exact jp67_626   H locs ls  hP hD hS (lv_sub hl [0, 1, 2] rfl)
        have oc_94 := zk_nle rfl rfl c_94
        refine lv_aload_n hx hb dX10_advance_38 rfl (lv_at hl 2 rfl) ?_
        refine va_get (D := (dC, dI)) (ci := 10) (v := .ref r0_1) (C := RX10) (T := TX10) (N := 8) hx hb hts zn_X10_advance_X10 hown hK hP 0 rfl rfl 1 (by decide) (hts (.fieldLink RX10 15 "ShortEnough$Words" "text" "[B") zw_X10_advance_266) (fun _ h9 => h9) rfl dX10_advance_39 ?_
        refine lv_aload_n hx hb dX10_advance_42 rfl (lv_at hl 2 rfl) ?_
        refine va_get (D := (dC, dI)) (ci := 10) (v := .int y27_h0_3) (C := RX10) (T := TX10) (N := 8) hx hb hts zn_X10_advance_X10 hown hK hP 0 rfl rfl 3 (by decide) (hts (.fieldLink RX10 43 "ShortEnough$Words" "place" "I") zw_X10_advance_263) (fun _ h9 => h9) rfl dX10_advance_43 ?_
        refine va_bald hx hb hK hP 1 0 rfl rfl (vp_in_iff.mpr ⟨by omega, by omega⟩) dX10_advance_46 ?_
        refine lv_topi (fun x_95 ex_95 => ?_)
        have hPc := hP.sub (ws' := []) [] rfl
        have hDc := hD.sub (ws' := []) [] (by decide) rfl
        have hKc := hK.sub (tys' := []) [] rfl
        have hFc := va_free (wc := []) hD hS hA [] rfl
        refine va_calli (va_runS (As := [.int x_95]) (rest := []) ⟨hx, hb, hml, hown, hts⟩ (zs_X10_kindOf l dC dI x_95  H.size) (va_cwS 1 hts gX10_advance_X10_kindOf rfl rfl rfl (by decide +kernel) ⟨Nat.le_of_ble_eq_true rfl, Nat.le_of_ble_eq_true rfl⟩) ⟨fun a U g mk q => by obtain ⟨q0, q1, qP, qK, qD⟩ := q; exact ⟨q0, q1, qP, va_K.moved (u := U) (U := U.calling g mk a) (Vm.Alike.refl U.vm) qK, qD⟩, fun U hU hW => ⟨rfl, by rw [hU], by rw [hU]; exact hPc, va_K.moved hW.alike hKc, hDc.weaken (fun _ _ _ _ => trivial)⟩⟩ rfl rfl hl.1 rfl (lv_room (Nat.le_of_ble_eq_true rfl)) dX10_advance_47 ⟨Nat.le_of_ble_eq_true rfl, Nat.le_of_ble_eq_true rfl⟩) hS (fun q _ h => hFc q h) hFc (fun r_96 u_97 t H1 locs ht hvm hw_98 hB hz1 hk1 hS => ?_)
        obtain ⟨hP1, hK1, hD1⟩ := hB
        rw [ht] at hP1
        have hK1 := va_K.moved hvm.symm hK1
        obtain ⟨hP, hD⟩ := va_join (wr := [(h0, .inr (10, [.ref r0_0, .ref r0_1, .int v0_2, .int y27_h0_3, .int v0_4, .int v0_5, .int v0_6, .int v0_7])), (r0_1, .inl (k1, 1200, .inl f1)), (r0_0, .inl (k2, 13, .inl f2))]) (w1 := []) hP hD [] [0, 1, 2] rfl rfl (by decide) (by decide) hk1 hFc hP1 hD1
        have hK := hK
        generalize H1 = H at hP hS ⊢
        have hP := hP.sub (ws' := [(h0, .inr (10, [.ref r0_0, .ref r0_1, .int v0_2, .int y27_h0_3, .int v0_4, .int v0_5, .int v0_6, .int v0_7])), (r0_1, .inl (k1, 1200, .inl f1)), (r0_0, .inl (k2, 13, .inl f2))]) [0, 1, 2] rfl
        have hD := hD.sub (ws' := [(h0, .inr (10, [.ref r0_0, .ref r0_1, .int v0_2, .int y27_h0_3, .int v0_4, .int v0_5, .int v0_6, .int v0_7])), (r0_1, .inl (k1, 1200, .inl f1)), (r0_0, .inl (k2, 13, .inl f2))]) [0, 1, 2] (by decide) rfl
        have hP : va_P (dC, dI) vwCl [(h0, .inr (10, [.ref r0_0, .ref r0_1, .int v0_2, .int y27_h0_3, .int v0_4, .int v0_5, .int v0_6, .int v0_7])), (r0_1, .inl (k1, 1200, .inl f1)), (r0_0, .inl (k2, 13, .inl f2))] H := hP
        have hD : va_D A [(h0, .inr (10, [.ref r0_0, .ref r0_1, .int v0_2, .int y27_h0_3, .int v0_4, .int v0_5, .int v0_6, .int v0_7])), (r0_1, .inl (k1, 1200, .inl f1)), (r0_0, .inl (k2, 13, .inl f2))] := hD
        obtain ⟨hr_96, -⟩ := hw_98
        refine lv_iconst (v := 5) hx hb dX10_advance_50 (by decide +kernel) ?_
        refine lv_icmp_ne (tgt := 67) hx hb dX10_advance_51 (by decide) (fun c_99 => ?_) (fun c_99 => ?_)
        · have oc_99 := zk_ne rfl (by decide +kernel : (5 : Int32).toInt = 5) c_99
          exact jp67_626   H locs ls  hP hD hS (lv_sub hl [0, 1, 2] rfl)
        have oc_99 := zk_eq rfl (by decide +kernel : (5 : Int32).toInt = 5) c_99
        refine lv_aload_n hx hb dX10_advance_54 rfl (lv_at hl 2 rfl) ?_
        refine lv_dup hx hb dX10_advance_55 rfl ?_
        refine va_get (D := (dC, dI)) (ci := 10) (v := .int y27_h0_3) (C := RX10) (T := TX10) (N := 8) hx hb hts zn_X10_advance_X10 hown hK hP 0 rfl rfl 3 (by decide) (hts (.fieldLink RX10 43 "ShortEnough$Words" "place" "I") zw_X10_advance_263) (fun _ h9 => h9) rfl dX10_advance_56 ?_
        refine lv_iconst (v := 1) hx hb dX10_advance_59 (by decide +kernel) ?_
        refine lv_iadd hx hb dX10_advance_60 ?_
        refine lv_topi (fun x_100 ex_100 => ?_)
        have hx_100 := zo_add ex_100 rfl (by decide +kernel : (1 : Int32).toInt = 1) (by omega)
        refine va_put (D := (dC, dI)) (ci := 10) (v := .int x_100) (ty := .int) (C := RX10) (T := TX10) (N := 8) hx hb hts zn_X10_advance_X10 tyX10 tyX10_ok nmX10 hown hK hP hD hS 0 rfl rfl 3 (by decide) (hts (.fieldLink RX10 43 "ShortEnough$Words" "place" "I") zw_X10_advance_263) (fun _ h9 => h9) rfl (by decide +kernel) rfl rfl (Nat.le_of_ble_eq_true rfl) dX10_advance_61 (fun H locs hP hD hS => ?_)
        have hP : va_P (dC, dI) vwCl [(h0, .inr (10, [.ref r0_0, .ref r0_1, .int v0_2, .int x_100, .int v0_4, .int v0_5, .int v0_6, .int v0_7])), (r0_1, .inl (k1, 1200, .inl f1)), (r0_0, .inl (k2, 13, .inl f2))] H := hP
        have hD : va_D A [(h0, .inr (10, [.ref r0_0, .ref r0_1, .int v0_2, .int x_100, .int v0_4, .int v0_5, .int v0_6, .int v0_7])), (r0_1, .inl (k1, 1200, .inl f1)), (r0_0, .inl (k2, 13, .inl f2))] := hD
        refine lv_goto (tgt := 27) hx hb dX10_advance_64 (by decide) ?_
        exact ih27  x_100 H locs ls (by omega) (by omega) (by omega)  (by omega) hP hD hS (lv_sub hl [0, 1, 2] rfl)
    exact lp27 ((1201 - (v0_3 : Int32).toInt).toNat + 1) v0_3 s.heap [] ls (by omega) (by omega) (by omega)  (by omega) hP hD hS (lv_sub hl [0, 1, 2] rfl)
  have oc_55 := zk_eq rfl (by decide +kernel : (2 : Int32).toInt = 2) c_55
  exact jp21_190   s.heap [] ls (by omega) (by omega)  hP hD hS (lv_sub hl [0, 1] rfl)
set_option maxHeartbeats 4000000 in
set_option maxRecDepth 100000 in
theorem zs_X10_open (l : Launch) (dC : Nat → ClassId) (dI : Nat → Nat → Nat) (h0 : Nat) (h1 : Nat) (p2 : Int32) (r0_0 : Nat) (r0_1 : Nat) (v0_2 : Int32) (v0_3 : Int32) (v0_4 : Int32) (v0_5 : Int32) (v0_6 : Int32) (v0_7 : Int32) (k1 : Nat) (f1 : Nat → Int32) (k2 : Nat) (f2 : Nat → Int32) (hq_v0_2 : (0 : Int) ≤ v0_2.toInt ∧ v0_2.toInt ≤ 1200) (hq_v0_3 : (0 : Int) ≤ v0_3.toInt ∧ v0_3.toInt ≤ 1200) (hq_v0_4 : (0 : Int) ≤ v0_4.toInt ∧ v0_4.toInt ≤ 5) (hq_v0_5 : (0 : Int) ≤ v0_5.toInt ∧ v0_5.toInt ≤ 1200) (hq_v0_7 : (-1 : Int) ≤ v0_7.toInt ∧ v0_7.toInt ≤ 12) (sz : Nat) : Met l yX10_open wsX10_open ({ frames := 2, cells := 0, slots := 0, locals := 46 }) (va_Pc [.ref h0, .ref h1, .int p2] (fun U => U.heap.size = sz ∧ va_P (dC, dI) vwCl [(h0, .inr (10, [.ref r0_0, .ref r0_1, .int v0_2, .int v0_3, .int v0_4, .int v0_5, .int v0_6, .int v0_7])), (h1, .inl (k1, 1200, .inl f1)), (r0_0, .inl (k2, 13, .inl f2))] U.heap ∧ va_K (dC, dI) vwCl [(k1, .byte), (k2, .int)] U ∧ va_D (fun _ => True) [(h0, .inr (10, [.ref r0_0, .ref r0_1, .int v0_2, .int v0_3, .int v0_4, .int v0_5, .int v0_6, .int v0_7])), (h1, .inl (k1, 1200, .inl f1)), (r0_0, .inl (k2, 13, .inl f2))])) (va_Qv (fun (u : zV) => ((0 : Int) ≤ (u.1 0).toInt ∧ (u.1 0).toInt ≤ 1200) ∧ ((0 : Int) ≤ (u.1 1).toInt ∧ (u.1 1).toInt ≤ 1200) ∧ ((0 : Int) ≤ (u.1 2).toInt ∧ (u.1 2).toInt ≤ 5) ∧ ((0 : Int) ≤ (u.1 3).toInt ∧ (u.1 3).toInt ≤ 1200) ∧ ((-1 : Int) ≤ (u.1 5).toInt ∧ (u.1 5).toInt ≤ 12) ∧ True) (fun u t => va_P (dC, dI) vwCl [(h0, .inr (10, [.ref r0_0, .ref h1, .int (u.1 0), .int (u.1 1), .int (u.1 2), .int (u.1 3), .int (u.1 4), .int (u.1 5)])), (h1, .inl (k1, 1200, .inl f1)), (r0_0, .inl (k2, 13, .inl f2))] t.heap ∧ va_K (dC, dI) vwCl [(k1, .byte), (k2, .int)] t ∧ va_D (va_A [(h0, .inr (10, [.ref r0_0, .ref r0_1, .int v0_2, .int v0_3, .int v0_4, .int v0_5, .int v0_6, .int v0_7])), (h1, .inl (k1, 1200, .inl f1)), (r0_0, .inl (k2, 13, .inl f2))] sz) [(h0, .inr (10, [.ref r0_0, .ref h1, .int (u.1 0), .int (u.1 1), .int (u.1 2), .int (u.1 3), .int (u.1 4), .int (u.1 5)])), (h1, .inl (k1, 1200, .inl f1)), (r0_0, .inl (k2, 13, .inl f2))]) (va_A [(h0, .inr (10, [.ref r0_0, .ref r0_1, .int v0_2, .int v0_3, .int v0_4, .int v0_5, .int v0_6, .int v0_7])), (h1, .inl (k1, 1200, .inl f1)), (r0_0, .inl (k2, 13, .inl f2))] sz)) 0 0 (va_A [(h0, .inr (10, [.ref r0_0, .ref r0_1, .int v0_2, .int v0_3, .int v0_4, .int v0_5, .int v0_6, .int v0_7])), (h1, .inl (k1, 1200, .inl f1)), (r0_0, .inl (k2, 13, .inl f2))] sz) := by
  refine Met.ofW (cc := cX10_open) (maxL := 3) (ret := none) (by decide +kernel) rfl ?_
  intro p e s m args below meth c s₁ B hml hv
  obtain ⟨rfl, hsz, hP, hK, hD0⟩ := hv
  have hx := B.exec
  have hb := B.bytes
  have hr := B.returns
  have hts := atoms_spec (ws := wsX10_open) B.pre
  have hown : s.vm.findClass RX10 = some m.cls := findClass_of_methodNamed B.named
  have hlocks := B.notSynchronized
  subst hsz
  have hD := hD0.self (sz := s.heap.size)
  generalize hAe : va_A [(h0, .inr (10, [.ref r0_0, .ref r0_1, .int v0_2, .int v0_3, .int v0_4, .int v0_5, .int v0_6, .int v0_7])), (h1, .inl (k1, 1200, .inl f1)), (r0_0, .inl (k2, 13, .inl f2))] s.heap.size = A at hD ⊢
  have hA : ∀ q : Nat, s.heap.size ≤ q → A q := fun q h => by rw [← hAe]; exact Or.inr h
  have hS : va_S A s.heap s.heap [] := va_S.rf
  have hP : va_P (dC, dI) vwCl [(h0, .inr (10, [.ref r0_0, .ref r0_1, .int v0_2, .int v0_3, .int v0_4, .int v0_5, .int v0_6, .int v0_7])), (h1, .inl (k1, 1200, .inl f1)), (r0_0, .inl (k2, 13, .inl f2))] s.heap := hP
  have hl := lv_entry ([.ref h0, .ref h1, .int p2]) (n := 3) (Nat.le_of_ble_eq_true rfl)
  rw [lg_entry_eq]
  generalize (lg_sl ([.ref h0, .ref h1, .int p2]) ++ List.replicate (3 - (lg_sl ([.ref h0, .ref h1, .int p2])).length) Slot.unset).toArray = ls at hl ⊢
  have hl : lv_has ls 3 [(0, .ref h0), (1, .ref h1), (2, .int p2)] := hl
  generalize hQ : MQ below (va_Qv (fun (u : zV) => ((0 : Int) ≤ (u.1 0).toInt ∧ (u.1 0).toInt ≤ 1200) ∧ ((0 : Int) ≤ (u.1 1).toInt ∧ (u.1 1).toInt ≤ 1200) ∧ ((0 : Int) ≤ (u.1 2).toInt ∧ (u.1 2).toInt ≤ 5) ∧ ((0 : Int) ≤ (u.1 3).toInt ∧ (u.1 3).toInt ≤ 1200) ∧ ((-1 : Int) ≤ (u.1 5).toInt ∧ (u.1 5).toInt ≤ 12) ∧ True) (fun u t => va_P (dC, dI) vwCl [(h0, .inr (10, [.ref r0_0, .ref h1, .int (u.1 0), .int (u.1 1), .int (u.1 2), .int (u.1 3), .int (u.1 4), .int (u.1 5)])), (h1, .inl (k1, 1200, .inl f1)), (r0_0, .inl (k2, 13, .inl f2))] t.heap ∧ va_K (dC, dI) vwCl [(k1, .byte), (k2, .int)] t ∧ va_D A [(h0, .inr (10, [.ref r0_0, .ref h1, .int (u.1 0), .int (u.1 1), .int (u.1 2), .int (u.1 3), .int (u.1 4), .int (u.1 5)])), (h1, .inl (k1, 1200, .inl f1)), (r0_0, .inl (k2, 13, .inl f2))]) A) ([.ref h0, .ref h1, .int p2] : List Value).toArray s 0 0 A = Q
  refine lv_aload_n hx hb dX10_open_0 rfl (lv_at hl 0 rfl) ?_
  refine lv_aload_n hx hb dX10_open_1 rfl (lv_at hl 1 rfl) ?_
  refine va_put (D := (dC, dI)) (ci := 10) (v := .ref h1) (ty := .array .byte) (C := RX10) (T := TX10) (N := 8) hx hb hts zn_X10_open_X10 tyX10 tyX10_ok nmX10 hown hK hP hD hS 0 rfl rfl 1 (by decide) (hts (.fieldLink RX10 15 "ShortEnough$Words" "text" "[B") zw_X10_open_271) (fun _ h9 => h9) rfl (by decide +kernel) rfl rfl (Nat.le_of_ble_eq_true rfl) dX10_open_2 (fun H locs hP hD hS => ?_)
  have hP : va_P (dC, dI) vwCl [(h0, .inr (10, [.ref r0_0, .ref h1, .int v0_2, .int v0_3, .int v0_4, .int v0_5, .int v0_6, .int v0_7])), (h1, .inl (k1, 1200, .inl f1)), (r0_0, .inl (k2, 13, .inl f2))] H := hP
  have hD : va_D A [(h0, .inr (10, [.ref r0_0, .ref h1, .int v0_2, .int v0_3, .int v0_4, .int v0_5, .int v0_6, .int v0_7])), (h1, .inl (k1, 1200, .inl f1)), (r0_0, .inl (k2, 13, .inl f2))] := hD
  refine lv_aload_n hx hb dX10_open_5 rfl (lv_at hl 0 rfl) ?_
  refine lv_iconst (v := 0) hx hb dX10_open_6 (by decide +kernel) ?_
  refine lv_iload_n hx hb dX10_open_7 rfl (lv_at hl 2 rfl) ?_
  refine lv_aload_n hx hb dX10_open_8 rfl (lv_at hl 1 rfl) ?_
  refine va_alen (v := 1200) hx hb hK hP 1 0 rfl rfl (show Int32.ofNat 1200 = 1200 by decide +kernel) dX10_open_9 ?_
  refine va_mmin hx hb (by rw [hml]; exact hl.1.symm) hown (hts (.methodLink RX10 31 Lib.Math.min.name) zw_X10_open_272) (hts (.static Lib.Math.min.name) zw_X10_open_273) (hts (.initialized "java/lang/Math") zw_X10_open_274) (hts (.code Lib.Math.min.name Lib.Math.min.code 2 (some .int)) zw_X10_open_275) (Nat.le_of_ble_eq_true rfl) (Nat.le_of_ble_eq_true rfl) (Nat.le_of_ble_eq_true rfl) (Nat.le_of_ble_eq_true rfl) dX10_open_10 ?_
  refine lv_topi (fun x_1 ex_1 => ?_)
  have hx_1 := zo_min ex_1 rfl (by decide +kernel : (1200 : Int32).toInt = 1200)
  refine va_mmax hx hb (by rw [hml]; exact hl.1.symm) hown (hts (.methodLink RX10 37 Lib.Math.max.name) zw_X10_open_276) (hts (.static Lib.Math.max.name) zw_X10_open_277) (hts (.initialized "java/lang/Math") zw_X10_open_274) (hts (.code Lib.Math.max.name Lib.Math.max.code 2 (some .int)) zw_X10_open_278) (Nat.le_of_ble_eq_true rfl) (Nat.le_of_ble_eq_true rfl) (Nat.le_of_ble_eq_true rfl) (Nat.le_of_ble_eq_true rfl) dX10_open_13 ?_
  refine lv_topi (fun x_2 ex_2 => ?_)
  have hx_2 := zo_max ex_2 (by decide +kernel : (0 : Int32).toInt = 0) rfl
  refine va_put (D := (dC, dI)) (ci := 10) (v := .int x_2) (ty := .int) (C := RX10) (T := TX10) (N := 8) hx hb hts zn_X10_open_X10 tyX10 tyX10_ok nmX10 hown hK hP hD hS 0 rfl rfl 2 (by decide) (hts (.fieldLink RX10 40 "ShortEnough$Words" "length" "I") zw_X10_open_279) (fun _ h9 => h9) rfl (by decide +kernel) rfl rfl (Nat.le_of_ble_eq_true rfl) dX10_open_16 (fun H locs hP hD hS => ?_)
  have hP : va_P (dC, dI) vwCl [(h0, .inr (10, [.ref r0_0, .ref h1, .int x_2, .int v0_3, .int v0_4, .int v0_5, .int v0_6, .int v0_7])), (h1, .inl (k1, 1200, .inl f1)), (r0_0, .inl (k2, 13, .inl f2))] H := hP
  have hD : va_D A [(h0, .inr (10, [.ref r0_0, .ref h1, .int x_2, .int v0_3, .int v0_4, .int v0_5, .int v0_6, .int v0_7])), (h1, .inl (k1, 1200, .inl f1)), (r0_0, .inl (k2, 13, .inl f2))] := hD
  refine lv_aload_n hx hb dX10_open_19 rfl (lv_at hl 0 rfl) ?_
  refine lv_iconst (v := 0) hx hb dX10_open_20 (by decide +kernel) ?_
  refine va_put (D := (dC, dI)) (ci := 10) (v := .int 0) (ty := .int) (C := RX10) (T := TX10) (N := 8) hx hb hts zn_X10_open_X10 tyX10 tyX10_ok nmX10 hown hK hP hD hS 0 rfl rfl 3 (by decide) (hts (.fieldLink RX10 43 "ShortEnough$Words" "place" "I") zw_X10_open_280) (fun _ h9 => h9) rfl (by decide +kernel) rfl rfl (Nat.le_of_ble_eq_true rfl) dX10_open_21 (fun H locs hP hD hS => ?_)
  have hP : va_P (dC, dI) vwCl [(h0, .inr (10, [.ref r0_0, .ref h1, .int x_2, .int 0, .int v0_4, .int v0_5, .int v0_6, .int v0_7])), (h1, .inl (k1, 1200, .inl f1)), (r0_0, .inl (k2, 13, .inl f2))] H := hP
  have hD : va_D A [(h0, .inr (10, [.ref r0_0, .ref h1, .int x_2, .int 0, .int v0_4, .int v0_5, .int v0_6, .int v0_7])), (h1, .inl (k1, 1200, .inl f1)), (r0_0, .inl (k2, 13, .inl f2))] := hD
  refine lv_aload_n hx hb dX10_open_24 rfl (lv_at hl 0 rfl) ?_
  refine lv_iconst (v := 0) hx hb dX10_open_25 (by decide +kernel) ?_
  refine va_put (D := (dC, dI)) (ci := 10) (v := .int 0) (ty := .int) (C := RX10) (T := TX10) (N := 8) hx hb hts zn_X10_open_X10 tyX10 tyX10_ok nmX10 hown hK hP hD hS 0 rfl rfl 4 (by decide) (hts (.fieldLink RX10 46 "ShortEnough$Words" "kind" "I") zw_X10_open_281) (fun _ h9 => h9) rfl (by decide +kernel) rfl rfl (Nat.le_of_ble_eq_true rfl) dX10_open_26 (fun H locs hP hD hS => ?_)
  have hP : va_P (dC, dI) vwCl [(h0, .inr (10, [.ref r0_0, .ref h1, .int x_2, .int 0, .int 0, .int v0_5, .int v0_6, .int v0_7])), (h1, .inl (k1, 1200, .inl f1)), (r0_0, .inl (k2, 13, .inl f2))] H := hP
  have hD : va_D A [(h0, .inr (10, [.ref r0_0, .ref h1, .int x_2, .int 0, .int 0, .int v0_5, .int v0_6, .int v0_7])), (h1, .inl (k1, 1200, .inl f1)), (r0_0, .inl (k2, 13, .inl f2))] := hD
  refine lv_aload_n hx hb dX10_open_29 rfl (lv_at hl 0 rfl) ?_
  have hPc := hP.sub (ws' := [(h0, .inr (10, [.ref r0_0, .ref h1, .int x_2, .int 0, .int 0, .int v0_5, .int v0_6, .int v0_7])), (h1, .inl (k1, 1200, .inl f1)), (r0_0, .inl (k2, 13, .inl f2))]) [0, 1, 2] rfl
  have hDc := hD.sub (ws' := [(h0, .inr (10, [.ref r0_0, .ref h1, .int x_2, .int 0, .int 0, .int v0_5, .int v0_6, .int v0_7])), (h1, .inl (k1, 1200, .inl f1)), (r0_0, .inl (k2, 13, .inl f2))]) [0, 1, 2] (by decide) rfl
  have hKc := hK.sub (tys' := [(k1, .byte), (k2, .int)]) [0, 1] rfl
  have hFc := va_free (wc := [(h0, .inr (10, [.ref r0_0, .ref h1, .int x_2, .int 0, .int 0, .int v0_5, .int v0_6, .int v0_7])), (h1, .inl (k1, 1200, .inl f1)), (r0_0, .inl (k2, 13, .inl f2))]) hD hS hA [0, 1, 2] rfl
  refine va_callv (va_runV (As := []) (rest := []) ⟨hx, hb, hml, hown, hts⟩ (zs_X10_advance l dC dI h0 r0_0 h1 x_2 0 0 v0_5 v0_6 v0_7 k1 f1 k2 f2 (by omega) (by decide +kernel) (by decide +kernel) (by omega) (by omega) H.size) (cwV 0 hts gX10_open_X10_advance rfl rfl rfl (by decide +kernel) ⟨Nat.le_of_ble_eq_true rfl, Nat.le_of_ble_eq_true rfl⟩) ⟨fun a U g mk q => by obtain ⟨q0, q1, qP, qK, qD⟩ := q; exact ⟨q0, q1, qP, va_K.moved (u := U) (U := U.calling g mk a) (Vm.Alike.refl U.vm) qK, qD⟩, va_recv hKc hPc (ci := 10) (q0 := 0) rfl rfl, fun U hU hW => ⟨rfl, by rw [hU], by rw [hU]; exact hPc, va_K.moved hW.alike hKc, hDc.weaken (fun _ _ _ _ => trivial)⟩⟩ rfl rfl hl.1 rfl (lv_room (Nat.le_of_ble_eq_true rfl)) dX10_open_30 ⟨Nat.le_of_ble_eq_true rfl, Nat.le_of_ble_eq_true rfl⟩) hS (fun q _ h => hFc q h) hFc (fun u_4 t H1 locs ht hvm hw_5 hB hz1 hk1 hS => ?_)
  obtain ⟨hP1, hK1, hD1⟩ := hB
  rw [ht] at hP1
  have hK1 := va_K.moved hvm.symm hK1
  obtain ⟨hP, hD⟩ := va_join (wr := []) (w1 := [(h0, .inr (10, [.ref r0_0, .ref h1, .int x_2, .int (u_4.1 0), .int (u_4.1 1), .int (u_4.1 2), .int (u_4.1 3), .int (u_4.1 4)])), (h1, .inl (k1, 1200, .inl f1)), (r0_0, .inl (k2, 13, .inl f2))]) hP hD [0, 1, 2] [] rfl rfl (by decide) (by decide) hk1 hFc hP1 hD1
  have hK := hK
  generalize H1 = H at hP hS ⊢
  have hP := hP.sub (ws' := [(h0, .inr (10, [.ref r0_0, .ref h1, .int x_2, .int (u_4.1 0), .int (u_4.1 1), .int (u_4.1 2), .int (u_4.1 3), .int (u_4.1 4)])), (h1, .inl (k1, 1200, .inl f1)), (r0_0, .inl (k2, 13, .inl f2))]) [0, 1, 2] rfl
  have hD := hD.sub (ws' := [(h0, .inr (10, [.ref r0_0, .ref h1, .int x_2, .int (u_4.1 0), .int (u_4.1 1), .int (u_4.1 2), .int (u_4.1 3), .int (u_4.1 4)])), (h1, .inl (k1, 1200, .inl f1)), (r0_0, .inl (k2, 13, .inl f2))]) [0, 1, 2] (by decide) rfl
  have hP : va_P (dC, dI) vwCl [(h0, .inr (10, [.ref r0_0, .ref h1, .int x_2, .int (u_4.1 0), .int (u_4.1 1), .int (u_4.1 2), .int (u_4.1 3), .int (u_4.1 4)])), (h1, .inl (k1, 1200, .inl f1)), (r0_0, .inl (k2, 13, .inl f2))] H := hP
  have hD : va_D A [(h0, .inr (10, [.ref r0_0, .ref h1, .int x_2, .int (u_4.1 0), .int (u_4.1 1), .int (u_4.1 2), .int (u_4.1 3), .int (u_4.1 4)])), (h1, .inl (k1, 1200, .inl f1)), (r0_0, .inl (k2, 13, .inl f2))] := hD
  obtain ⟨hmr_3_0, hmr_3_1, hmr_3_2, hmr_3_3, -⟩ := hw_5
  have hP9 := hP.sub (ws' := [(h0, .inr (10, [.ref r0_0, .ref h1, .int x_2, .int (u_4.1 0), .int (u_4.1 1), .int (u_4.1 2), .int (u_4.1 3), .int (u_4.1 4)])), (h1, .inl (k1, 1200, .inl f1)), (r0_0, .inl (k2, 13, .inl f2))]) [0, 1, 2] rfl
  have hD9 := hD.sub (ws' := [(h0, .inr (10, [.ref r0_0, .ref h1, .int x_2, .int (u_4.1 0), .int (u_4.1 1), .int (u_4.1 2), .int (u_4.1 3), .int (u_4.1 4)])), (h1, .inl (k1, 1200, .inl f1)), (r0_0, .inl (k2, 13, .inl f2))]) [0, 1, 2] (by decide) rfl
  have hK9 := hK.sub (tys' := [(k1, .byte), (k2, .int)]) [0, 1] rfl
  rw [← hQ]
  exact W.vret hx hb hr (fun t ht hW => ⟨⟨((fun k => ([x_2, (u_4.1 0), (u_4.1 1), (u_4.1 2), (u_4.1 3), (u_4.1 4)] : List Int32).getD k 0), (fun k => ([] : List (Nat → Int32)).getD k (fun _ => 0)), (fun k => ([] : List (Nat → Int64)).getD k (fun _ => 0))), rfl, ⟨(show (0 : Int) ≤ (x_2 : Int32).toInt ∧ (x_2 : Int32).toInt ≤ 1200 by omega), (show (0 : Int) ≤ ((u_4.1 0) : Int32).toInt ∧ ((u_4.1 0) : Int32).toInt ≤ 1200 by omega), (show (0 : Int) ≤ ((u_4.1 1) : Int32).toInt ∧ ((u_4.1 1) : Int32).toInt ≤ 5 by omega), (show (0 : Int) ≤ ((u_4.1 2) : Int32).toInt ∧ ((u_4.1 2) : Int32).toInt ≤ 1200 by omega), (show (-1 : Int) ≤ ((u_4.1 4) : Int32).toInt ∧ ((u_4.1 4) : Int32).toInt ≤ 12 by omega), trivial⟩, by rw [ht]; exact hP9, va_K.moved hW.alike hK9, hD9⟩, hS.F ht⟩) hS.2.2 dX10_open_33
set_option maxHeartbeats 4000000 in
set_option maxRecDepth 100000 in
theorem zs_X5_stopAt (l : Launch) (dC : Nat → ClassId) (dI : Nat → Nat → Nat) (h0 : Nat) (p1 : Int32) (p2 : Int32) (r0_0 : Nat) (v0_1 : Int32) (v0_2 : Int32) (v0_3 : Int32)  (sz : Nat) : Met l yX5_stopAt wsX5_stopAt ({ frames := 0, cells := 0, slots := 0, locals := 0 }) (va_Pc [.ref h0, .int p1, .int p2] (fun U => U.heap.size = sz ∧ va_P (dC, dI) vwCl [(h0, .inr (5, [.ref r0_0, .int v0_1, .int v0_2, .int v0_3]))] U.heap ∧ va_K (dC, dI) vwCl [] U ∧ va_D (fun _ => True) [(h0, .inr (5, [.ref r0_0, .int v0_1, .int v0_2, .int v0_3]))])) (va_Qi (fun (r : Int32) (u : zV) => ((0 : Int) ≤ r.toInt ∧ r.toInt ≤ 0) ∧ True) (fun u t => va_P (dC, dI) vwCl [(h0, .inr (5, [.ref r0_0, .int v0_1, .int (u.1 0), .int (u.1 1)]))] t.heap ∧ va_K (dC, dI) vwCl [] t ∧ va_D (va_A [(h0, .inr (5, [.ref r0_0, .int v0_1, .int v0_2, .int v0_3]))] sz) [(h0, .inr (5, [.ref r0_0, .int v0_1, .int (u.1 0), .int (u.1 1)]))]) (va_A [(h0, .inr (5, [.ref r0_0, .int v0_1, .int v0_2, .int v0_3]))] sz)) 0 0 (va_A [(h0, .inr (5, [.ref r0_0, .int v0_1, .int v0_2, .int v0_3]))] sz) := by
  refine Met.ofW (cc := cX5_stopAt) (maxL := 3) (ret := (some .boolean)) (by decide +kernel) rfl ?_
  intro p e s m args below meth c s₁ B hml hv
  obtain ⟨rfl, hsz, hP, hK, hD0⟩ := hv
  have hx := B.exec
  have hb := B.bytes
  have hr := B.returns
  have hts := atoms_spec (ws := wsX5_stopAt) B.pre
  have hown : s.vm.findClass RX5 = some m.cls := findClass_of_methodNamed B.named
  have hlocks := B.notSynchronized
  subst hsz
  have hD := hD0.self (sz := s.heap.size)
  generalize hAe : va_A [(h0, .inr (5, [.ref r0_0, .int v0_1, .int v0_2, .int v0_3]))] s.heap.size = A at hD ⊢
  have hA : ∀ q : Nat, s.heap.size ≤ q → A q := fun q h => by rw [← hAe]; exact Or.inr h
  have hS : va_S A s.heap s.heap [] := va_S.rf
  have hP : va_P (dC, dI) vwCl [(h0, .inr (5, [.ref r0_0, .int v0_1, .int v0_2, .int v0_3]))] s.heap := hP
  have hl := lv_entry ([.ref h0, .int p1, .int p2]) (n := 3) (Nat.le_of_ble_eq_true rfl)
  rw [lg_entry_eq]
  generalize (lg_sl ([.ref h0, .int p1, .int p2]) ++ List.replicate (3 - (lg_sl ([.ref h0, .int p1, .int p2])).length) Slot.unset).toArray = ls at hl ⊢
  have hl : lv_has ls 3 [(0, .ref h0), (1, .int p1), (2, .int p2)] := hl
  generalize hQ : MQ below (va_Qi (fun (r : Int32) (u : zV) => ((0 : Int) ≤ r.toInt ∧ r.toInt ≤ 0) ∧ True) (fun u t => va_P (dC, dI) vwCl [(h0, .inr (5, [.ref r0_0, .int v0_1, .int (u.1 0), .int (u.1 1)]))] t.heap ∧ va_K (dC, dI) vwCl [] t ∧ va_D A [(h0, .inr (5, [.ref r0_0, .int v0_1, .int (u.1 0), .int (u.1 1)]))]) A) ([.ref h0, .int p1, .int p2] : List Value).toArray s 0 0 A = Q
  refine lv_aload_n hx hb dX5_stopAt_0 rfl (lv_at hl 0 rfl) ?_
  refine lv_iload_n hx hb dX5_stopAt_1 rfl (lv_at hl 1 rfl) ?_
  refine va_put (D := (dC, dI)) (ci := 5) (v := .int p1) (ty := .int) (C := RX5) (T := TX5) (N := 4) hx hb hts zn_X5_stopAt_X5 tyX5 tyX5_ok nmX5 hown hK hP hD hS 0 rfl rfl 2 (by decide) (hts (.fieldLink RX5 22 "ShortEnough$Parser" "faultKind" "I") zw_X5_stopAt_283) (fun _ h9 => h9) rfl (by decide +kernel) rfl rfl (Nat.le_of_ble_eq_true rfl) dX5_stopAt_2 (fun H locs hP hD hS => ?_)
  have hP : va_P (dC, dI) vwCl [(h0, .inr (5, [.ref r0_0, .int v0_1, .int p1, .int v0_3]))] H := hP
  have hD : va_D A [(h0, .inr (5, [.ref r0_0, .int v0_1, .int p1, .int v0_3]))] := hD
  refine lv_aload_n hx hb dX5_stopAt_5 rfl (lv_at hl 0 rfl) ?_
  refine lv_iload_n hx hb dX5_stopAt_6 rfl (lv_at hl 2 rfl) ?_
  refine va_put (D := (dC, dI)) (ci := 5) (v := .int p2) (ty := .int) (C := RX5) (T := TX5) (N := 4) hx hb hts zn_X5_stopAt_X5 tyX5 tyX5_ok nmX5 hown hK hP hD hS 0 rfl rfl 3 (by decide) (hts (.fieldLink RX5 18 "ShortEnough$Parser" "faultPlace" "I") zw_X5_stopAt_284) (fun _ h9 => h9) rfl (by decide +kernel) rfl rfl (Nat.le_of_ble_eq_true rfl) dX5_stopAt_7 (fun H locs hP hD hS => ?_)
  have hP : va_P (dC, dI) vwCl [(h0, .inr (5, [.ref r0_0, .int v0_1, .int p1, .int p2]))] H := hP
  have hD : va_D A [(h0, .inr (5, [.ref r0_0, .int v0_1, .int p1, .int p2]))] := hD
  refine lv_iconst (v := 0) hx hb dX5_stopAt_10 (by decide +kernel) ?_
  have hP9 := hP.sub (ws' := [(h0, .inr (5, [.ref r0_0, .int v0_1, .int p1, .int p2]))]) [0] rfl
  have hD9 := hD.sub (ws' := [(h0, .inr (5, [.ref r0_0, .int v0_1, .int p1, .int p2]))]) [0] (by decide) rfl
  have hK9 := hK.sub (tys' := []) [] rfl
  rw [← hQ]
  exact W.zret (v := 0) hx hb hr rfl (fun t ht hW => ⟨⟨0, ((fun k => ([p1, p2] : List Int32).getD k 0), (fun k => ([] : List (Nat → Int32)).getD k (fun _ => 0)), (fun k => ([] : List (Nat → Int64)).getD k (fun _ => 0))), rfl, ⟨(show (0 : Int) ≤ (0 : Int32).toInt ∧ (0 : Int32).toInt ≤ 0 by decide +kernel), trivial⟩, by rw [ht]; exact hP9, va_K.moved hW.alike hK9, hD9⟩, hS.F ht⟩) hS.2.2 dX5_stopAt_11
set_option maxHeartbeats 4000000 in
set_option maxRecDepth 100000 in
theorem zs_X5_startsStatement (l : Launch) (dC : Nat → ClassId) (dI : Nat → Nat → Nat) (p0 : Int32)  (sz : Nat) : Met l yX5_startsStatement wsX5_startsStatement ({ frames := 0, cells := 0, slots := 0, locals := 0 }) (va_Pc [.int p0] (fun U => U.heap.size = sz ∧ va_P (dC, dI) vwCl [] U.heap ∧ va_K (dC, dI) vwCl [] U ∧ va_D (fun _ => True) [])) (va_Qi (fun (r : Int32) (u : zV) => ((0 : Int) ≤ r.toInt ∧ r.toInt ≤ 1) ∧ (r.toInt = 0 ∨ ((0 : Int) ≤ p0.toInt + (0) ∧ (p0.toInt : Int) ≤ 0 + (11))) ∧ True) (fun u t => va_P (dC, dI) vwCl [] t.heap ∧ va_K (dC, dI) vwCl [] t ∧ va_D (va_A [] sz) []) (va_A [] sz)) 0 0 (va_A [] sz) := by
  refine Met.ofW (cc := cX5_startsStatement) (maxL := 1) (ret := (some .boolean)) (by decide +kernel) rfl ?_
  intro p e s m args below meth c s₁ B hml hv
  obtain ⟨rfl, hsz, hP, hK, hD0⟩ := hv
  have hx := B.exec
  have hb := B.bytes
  have hr := B.returns
  have hts := atoms_spec (ws := wsX5_startsStatement) B.pre
  have hown : s.vm.findClass RX5 = some m.cls := findClass_of_methodNamed B.named
  have hlocks := B.notSynchronized
  subst hsz
  have hD := hD0.self (sz := s.heap.size)
  generalize hAe : va_A [] s.heap.size = A at hD ⊢
  have hA : ∀ q : Nat, s.heap.size ≤ q → A q := fun q h => by rw [← hAe]; exact Or.inr h
  have hS : va_S A s.heap s.heap [] := va_S.rf
  have hP : va_P (dC, dI) vwCl [] s.heap := hP
  have hl := lv_entry ([.int p0]) (n := 1) (Nat.le_of_ble_eq_true rfl)
  rw [lg_entry_eq]
  generalize (lg_sl ([.int p0]) ++ List.replicate (1 - (lg_sl ([.int p0])).length) Slot.unset).toArray = ls at hl ⊢
  have hl : lv_has ls 1 [(0, .int p0)] := hl
  generalize hQ : MQ below (va_Qi (fun (r : Int32) (u : zV) => ((0 : Int) ≤ r.toInt ∧ r.toInt ≤ 1) ∧ (r.toInt = 0 ∨ ((0 : Int) ≤ p0.toInt + (0) ∧ (p0.toInt : Int) ≤ 0 + (11))) ∧ True) (fun u t => va_P (dC, dI) vwCl [] t.heap ∧ va_K (dC, dI) vwCl [] t ∧ va_D A []) A) ([.int p0] : List Value).toArray s 0 0 A = Q
  refine lv_iload_n hx hb dX5_startsStatement_0 rfl (lv_at hl 0 rfl) ?_
  by_cases c_1 : p0 = 0
  · refine W.eq (g2 := F0 m 1 ls [.int 0]) (by rw [c_1]) ?_
    refine lv_tableIn (tgt := 64) (off := 63) hx hb dX5_startsStatement_1 (by decide +kernel) (by decide +kernel) (by decide +kernel) (by decide) ?_
    have oc_1 := zk_eq rfl (by decide +kernel : (0 : Int32).toInt = 0) c_1
    refine lv_iconst (v := 1) hx hb dX5_startsStatement_64 (by decide +kernel) ?_
    have hP9 := hP.sub (ws' := []) [] rfl
    have hD9 := hD.sub (ws' := []) [] (by decide) rfl
    have hK9 := hK.sub (tys' := []) [] rfl
    rw [← hQ]
    exact W.zret (v := 1) hx hb hr rfl (fun t ht hW => ⟨⟨1, ((fun k => ([] : List Int32).getD k 0), (fun k => ([] : List (Nat → Int32)).getD k (fun _ => 0)), (fun k => ([] : List (Nat → Int64)).getD k (fun _ => 0))), rfl, ⟨(show (0 : Int) ≤ (1 : Int32).toInt ∧ (1 : Int32).toInt ≤ 1 by decide +kernel), (show ((1 : Int32).toInt = 0 ∨ ((0 : Int) ≤ p0.toInt + (0) ∧ (p0.toInt : Int) ≤ 0 + (11))) by right; omega), trivial⟩, by rw [ht]; exact hP9, va_K.moved hW.alike hK9, hD9⟩, hS.F ht⟩) hS.2.2 dX5_startsStatement_65
  have oc_1 := zk_ne rfl (by decide +kernel : (0 : Int32).toInt = 0) c_1
  by_cases c_2 : p0 = 1
  · refine W.eq (g2 := F0 m 1 ls [.int 1]) (by rw [c_2]) ?_
    refine lv_tableIn (tgt := 66) (off := 65) hx hb dX5_startsStatement_1 (by decide +kernel) (by decide +kernel) (by decide +kernel) (by decide) ?_
    have oc_2 := zk_eq rfl (by decide +kernel : (1 : Int32).toInt = 1) c_2
    refine lv_iconst (v := 0) hx hb dX5_startsStatement_66 (by decide +kernel) ?_
    have hP9 := hP.sub (ws' := []) [] rfl
    have hD9 := hD.sub (ws' := []) [] (by decide) rfl
    have hK9 := hK.sub (tys' := []) [] rfl
    rw [← hQ]
    exact W.zret (v := 0) hx hb hr rfl (fun t ht hW => ⟨⟨0, ((fun k => ([] : List Int32).getD k 0), (fun k => ([] : List (Nat → Int32)).getD k (fun _ => 0)), (fun k => ([] : List (Nat → Int64)).getD k (fun _ => 0))), rfl, ⟨(show (0 : Int) ≤ (0 : Int32).toInt ∧ (0 : Int32).toInt ≤ 1 by decide +kernel), (show ((0 : Int32).toInt = 0 ∨ ((0 : Int) ≤ p0.toInt + (0) ∧ (p0.toInt : Int) ≤ 0 + (11))) by exact Or.inl (by decide +kernel)), trivial⟩, by rw [ht]; exact hP9, va_K.moved hW.alike hK9, hD9⟩, hS.F ht⟩) hS.2.2 dX5_startsStatement_67
  have oc_2 := zk_ne rfl (by decide +kernel : (1 : Int32).toInt = 1) c_2
  by_cases c_3 : p0 = 2
  · refine W.eq (g2 := F0 m 1 ls [.int 2]) (by rw [c_3]) ?_
    refine lv_tableIn (tgt := 66) (off := 65) hx hb dX5_startsStatement_1 (by decide +kernel) (by decide +kernel) (by decide +kernel) (by decide) ?_
    have oc_3 := zk_eq rfl (by decide +kernel : (2 : Int32).toInt = 2) c_3
    refine lv_iconst (v := 0) hx hb dX5_startsStatement_66 (by decide +kernel) ?_
    have hP9 := hP.sub (ws' := []) [] rfl
    have hD9 := hD.sub (ws' := []) [] (by decide) rfl
    have hK9 := hK.sub (tys' := []) [] rfl
    rw [← hQ]
    exact W.zret (v := 0) hx hb hr rfl (fun t ht hW => ⟨⟨0, ((fun k => ([] : List Int32).getD k 0), (fun k => ([] : List (Nat → Int32)).getD k (fun _ => 0)), (fun k => ([] : List (Nat → Int64)).getD k (fun _ => 0))), rfl, ⟨(show (0 : Int) ≤ (0 : Int32).toInt ∧ (0 : Int32).toInt ≤ 1 by decide +kernel), (show ((0 : Int32).toInt = 0 ∨ ((0 : Int) ≤ p0.toInt + (0) ∧ (p0.toInt : Int) ≤ 0 + (11))) by exact Or.inl (by decide +kernel)), trivial⟩, by rw [ht]; exact hP9, va_K.moved hW.alike hK9, hD9⟩, hS.F ht⟩) hS.2.2 dX5_startsStatement_67
  have oc_3 := zk_ne rfl (by decide +kernel : (2 : Int32).toInt = 2) c_3
  by_cases c_4 : p0 = 3
  · refine W.eq (g2 := F0 m 1 ls [.int 3]) (by rw [c_4]) ?_
    refine lv_tableIn (tgt := 66) (off := 65) hx hb dX5_startsStatement_1 (by decide +kernel) (by decide +kernel) (by decide +kernel) (by decide) ?_
    have oc_4 := zk_eq rfl (by decide +kernel : (3 : Int32).toInt = 3) c_4
    refine lv_iconst (v := 0) hx hb dX5_startsStatement_66 (by decide +kernel) ?_
    have hP9 := hP.sub (ws' := []) [] rfl
    have hD9 := hD.sub (ws' := []) [] (by decide) rfl
    have hK9 := hK.sub (tys' := []) [] rfl
    rw [← hQ]
    exact W.zret (v := 0) hx hb hr rfl (fun t ht hW => ⟨⟨0, ((fun k => ([] : List Int32).getD k 0), (fun k => ([] : List (Nat → Int32)).getD k (fun _ => 0)), (fun k => ([] : List (Nat → Int64)).getD k (fun _ => 0))), rfl, ⟨(show (0 : Int) ≤ (0 : Int32).toInt ∧ (0 : Int32).toInt ≤ 1 by decide +kernel), (show ((0 : Int32).toInt = 0 ∨ ((0 : Int) ≤ p0.toInt + (0) ∧ (p0.toInt : Int) ≤ 0 + (11))) by exact Or.inl (by decide +kernel)), trivial⟩, by rw [ht]; exact hP9, va_K.moved hW.alike hK9, hD9⟩, hS.F ht⟩) hS.2.2 dX5_startsStatement_67
  have oc_4 := zk_ne rfl (by decide +kernel : (3 : Int32).toInt = 3) c_4
  by_cases c_5 : p0 = 4
  · refine W.eq (g2 := F0 m 1 ls [.int 4]) (by rw [c_5]) ?_
    refine lv_tableIn (tgt := 64) (off := 63) hx hb dX5_startsStatement_1 (by decide +kernel) (by decide +kernel) (by decide +kernel) (by decide) ?_
    have oc_5 := zk_eq rfl (by decide +kernel : (4 : Int32).toInt = 4) c_5
    refine lv_iconst (v := 1) hx hb dX5_startsStatement_64 (by decide +kernel) ?_
    have hP9 := hP.sub (ws' := []) [] rfl
    have hD9 := hD.sub (ws' := []) [] (by decide) rfl
    have hK9 := hK.sub (tys' := []) [] rfl
    rw [← hQ]
    exact W.zret (v := 1) hx hb hr rfl (fun t ht hW => ⟨⟨1, ((fun k => ([] : List Int32).getD k 0), (fun k => ([] : List (Nat → Int32)).getD k (fun _ => 0)), (fun k => ([] : List (Nat → Int64)).getD k (fun _ => 0))), rfl, ⟨(show (0 : Int) ≤ (1 : Int32).toInt ∧ (1 : Int32).toInt ≤ 1 by decide +kernel), (show ((1 : Int32).toInt = 0 ∨ ((0 : Int) ≤ p0.toInt + (0) ∧ (p0.toInt : Int) ≤ 0 + (11))) by right; omega), trivial⟩, by rw [ht]; exact hP9, va_K.moved hW.alike hK9, hD9⟩, hS.F ht⟩) hS.2.2 dX5_startsStatement_65
  have oc_5 := zk_ne rfl (by decide +kernel : (4 : Int32).toInt = 4) c_5
  by_cases c_6 : p0 = 5
  · refine W.eq (g2 := F0 m 1 ls [.int 5]) (by rw [c_6]) ?_
    refine lv_tableIn (tgt := 64) (off := 63) hx hb dX5_startsStatement_1 (by decide +kernel) (by decide +kernel) (by decide +kernel) (by decide) ?_
    have oc_6 := zk_eq rfl (by decide +kernel : (5 : Int32).toInt = 5) c_6
    refine lv_iconst (v := 1) hx hb dX5_startsStatement_64 (by decide +kernel) ?_
    have hP9 := hP.sub (ws' := []) [] rfl
    have hD9 := hD.sub (ws' := []) [] (by decide) rfl
    have hK9 := hK.sub (tys' := []) [] rfl
    rw [← hQ]
    exact W.zret (v := 1) hx hb hr rfl (fun t ht hW => ⟨⟨1, ((fun k => ([] : List Int32).getD k 0), (fun k => ([] : List (Nat → Int32)).getD k (fun _ => 0)), (fun k => ([] : List (Nat → Int64)).getD k (fun _ => 0))), rfl, ⟨(show (0 : Int) ≤ (1 : Int32).toInt ∧ (1 : Int32).toInt ≤ 1 by decide +kernel), (show ((1 : Int32).toInt = 0 ∨ ((0 : Int) ≤ p0.toInt + (0) ∧ (p0.toInt : Int) ≤ 0 + (11))) by right; omega), trivial⟩, by rw [ht]; exact hP9, va_K.moved hW.alike hK9, hD9⟩, hS.F ht⟩) hS.2.2 dX5_startsStatement_65
  have oc_6 := zk_ne rfl (by decide +kernel : (5 : Int32).toInt = 5) c_6
  by_cases c_7 : p0 = 6
  · refine W.eq (g2 := F0 m 1 ls [.int 6]) (by rw [c_7]) ?_
    refine lv_tableIn (tgt := 64) (off := 63) hx hb dX5_startsStatement_1 (by decide +kernel) (by decide +kernel) (by decide +kernel) (by decide) ?_
    have oc_7 := zk_eq rfl (by decide +kernel : (6 : Int32).toInt = 6) c_7
    refine lv_iconst (v := 1) hx hb dX5_startsStatement_64 (by decide +kernel) ?_
    have hP9 := hP.sub (ws' := []) [] rfl
    have hD9 := hD.sub (ws' := []) [] (by decide) rfl
    have hK9 := hK.sub (tys' := []) [] rfl
    rw [← hQ]
    exact W.zret (v := 1) hx hb hr rfl (fun t ht hW => ⟨⟨1, ((fun k => ([] : List Int32).getD k 0), (fun k => ([] : List (Nat → Int32)).getD k (fun _ => 0)), (fun k => ([] : List (Nat → Int64)).getD k (fun _ => 0))), rfl, ⟨(show (0 : Int) ≤ (1 : Int32).toInt ∧ (1 : Int32).toInt ≤ 1 by decide +kernel), (show ((1 : Int32).toInt = 0 ∨ ((0 : Int) ≤ p0.toInt + (0) ∧ (p0.toInt : Int) ≤ 0 + (11))) by right; omega), trivial⟩, by rw [ht]; exact hP9, va_K.moved hW.alike hK9, hD9⟩, hS.F ht⟩) hS.2.2 dX5_startsStatement_65
  have oc_7 := zk_ne rfl (by decide +kernel : (6 : Int32).toInt = 6) c_7
  by_cases c_8 : p0 = 7
  · refine W.eq (g2 := F0 m 1 ls [.int 7]) (by rw [c_8]) ?_
    refine lv_tableIn (tgt := 66) (off := 65) hx hb dX5_startsStatement_1 (by decide +kernel) (by decide +kernel) (by decide +kernel) (by decide) ?_
    have oc_8 := zk_eq rfl (by decide +kernel : (7 : Int32).toInt = 7) c_8
    refine lv_iconst (v := 0) hx hb dX5_startsStatement_66 (by decide +kernel) ?_
    have hP9 := hP.sub (ws' := []) [] rfl
    have hD9 := hD.sub (ws' := []) [] (by decide) rfl
    have hK9 := hK.sub (tys' := []) [] rfl
    rw [← hQ]
    exact W.zret (v := 0) hx hb hr rfl (fun t ht hW => ⟨⟨0, ((fun k => ([] : List Int32).getD k 0), (fun k => ([] : List (Nat → Int32)).getD k (fun _ => 0)), (fun k => ([] : List (Nat → Int64)).getD k (fun _ => 0))), rfl, ⟨(show (0 : Int) ≤ (0 : Int32).toInt ∧ (0 : Int32).toInt ≤ 1 by decide +kernel), (show ((0 : Int32).toInt = 0 ∨ ((0 : Int) ≤ p0.toInt + (0) ∧ (p0.toInt : Int) ≤ 0 + (11))) by exact Or.inl (by decide +kernel)), trivial⟩, by rw [ht]; exact hP9, va_K.moved hW.alike hK9, hD9⟩, hS.F ht⟩) hS.2.2 dX5_startsStatement_67
  have oc_8 := zk_ne rfl (by decide +kernel : (7 : Int32).toInt = 7) c_8
  by_cases c_9 : p0 = 8
  · refine W.eq (g2 := F0 m 1 ls [.int 8]) (by rw [c_9]) ?_
    refine lv_tableIn (tgt := 66) (off := 65) hx hb dX5_startsStatement_1 (by decide +kernel) (by decide +kernel) (by decide +kernel) (by decide) ?_
    have oc_9 := zk_eq rfl (by decide +kernel : (8 : Int32).toInt = 8) c_9
    refine lv_iconst (v := 0) hx hb dX5_startsStatement_66 (by decide +kernel) ?_
    have hP9 := hP.sub (ws' := []) [] rfl
    have hD9 := hD.sub (ws' := []) [] (by decide) rfl
    have hK9 := hK.sub (tys' := []) [] rfl
    rw [← hQ]
    exact W.zret (v := 0) hx hb hr rfl (fun t ht hW => ⟨⟨0, ((fun k => ([] : List Int32).getD k 0), (fun k => ([] : List (Nat → Int32)).getD k (fun _ => 0)), (fun k => ([] : List (Nat → Int64)).getD k (fun _ => 0))), rfl, ⟨(show (0 : Int) ≤ (0 : Int32).toInt ∧ (0 : Int32).toInt ≤ 1 by decide +kernel), (show ((0 : Int32).toInt = 0 ∨ ((0 : Int) ≤ p0.toInt + (0) ∧ (p0.toInt : Int) ≤ 0 + (11))) by exact Or.inl (by decide +kernel)), trivial⟩, by rw [ht]; exact hP9, va_K.moved hW.alike hK9, hD9⟩, hS.F ht⟩) hS.2.2 dX5_startsStatement_67
  have oc_9 := zk_ne rfl (by decide +kernel : (8 : Int32).toInt = 8) c_9
  by_cases c_10 : p0 = 9
  · refine W.eq (g2 := F0 m 1 ls [.int 9]) (by rw [c_10]) ?_
    refine lv_tableIn (tgt := 64) (off := 63) hx hb dX5_startsStatement_1 (by decide +kernel) (by decide +kernel) (by decide +kernel) (by decide) ?_
    have oc_10 := zk_eq rfl (by decide +kernel : (9 : Int32).toInt = 9) c_10
    refine lv_iconst (v := 1) hx hb dX5_startsStatement_64 (by decide +kernel) ?_
    have hP9 := hP.sub (ws' := []) [] rfl
    have hD9 := hD.sub (ws' := []) [] (by decide) rfl
    have hK9 := hK.sub (tys' := []) [] rfl
    rw [← hQ]
    exact W.zret (v := 1) hx hb hr rfl (fun t ht hW => ⟨⟨1, ((fun k => ([] : List Int32).getD k 0), (fun k => ([] : List (Nat → Int32)).getD k (fun _ => 0)), (fun k => ([] : List (Nat → Int64)).getD k (fun _ => 0))), rfl, ⟨(show (0 : Int) ≤ (1 : Int32).toInt ∧ (1 : Int32).toInt ≤ 1 by decide +kernel), (show ((1 : Int32).toInt = 0 ∨ ((0 : Int) ≤ p0.toInt + (0) ∧ (p0.toInt : Int) ≤ 0 + (11))) by right; omega), trivial⟩, by rw [ht]; exact hP9, va_K.moved hW.alike hK9, hD9⟩, hS.F ht⟩) hS.2.2 dX5_startsStatement_65
  have oc_10 := zk_ne rfl (by decide +kernel : (9 : Int32).toInt = 9) c_10
  by_cases c_11 : p0 = 10
  · refine W.eq (g2 := F0 m 1 ls [.int 10]) (by rw [c_11]) ?_
    refine lv_tableIn (tgt := 64) (off := 63) hx hb dX5_startsStatement_1 (by decide +kernel) (by decide +kernel) (by decide +kernel) (by decide) ?_
    have oc_11 := zk_eq rfl (by decide +kernel : (10 : Int32).toInt = 10) c_11
    refine lv_iconst (v := 1) hx hb dX5_startsStatement_64 (by decide +kernel) ?_
    have hP9 := hP.sub (ws' := []) [] rfl
    have hD9 := hD.sub (ws' := []) [] (by decide) rfl
    have hK9 := hK.sub (tys' := []) [] rfl
    rw [← hQ]
    exact W.zret (v := 1) hx hb hr rfl (fun t ht hW => ⟨⟨1, ((fun k => ([] : List Int32).getD k 0), (fun k => ([] : List (Nat → Int32)).getD k (fun _ => 0)), (fun k => ([] : List (Nat → Int64)).getD k (fun _ => 0))), rfl, ⟨(show (0 : Int) ≤ (1 : Int32).toInt ∧ (1 : Int32).toInt ≤ 1 by decide +kernel), (show ((1 : Int32).toInt = 0 ∨ ((0 : Int) ≤ p0.toInt + (0) ∧ (p0.toInt : Int) ≤ 0 + (11))) by right; omega), trivial⟩, by rw [ht]; exact hP9, va_K.moved hW.alike hK9, hD9⟩, hS.F ht⟩) hS.2.2 dX5_startsStatement_65
  have oc_11 := zk_ne rfl (by decide +kernel : (10 : Int32).toInt = 10) c_11
  by_cases c_12 : p0 = 11
  · refine W.eq (g2 := F0 m 1 ls [.int 11]) (by rw [c_12]) ?_
    refine lv_tableIn (tgt := 64) (off := 63) hx hb dX5_startsStatement_1 (by decide +kernel) (by decide +kernel) (by decide +kernel) (by decide) ?_
    have oc_12 := zk_eq rfl (by decide +kernel : (11 : Int32).toInt = 11) c_12
    refine lv_iconst (v := 1) hx hb dX5_startsStatement_64 (by decide +kernel) ?_
    have hP9 := hP.sub (ws' := []) [] rfl
    have hD9 := hD.sub (ws' := []) [] (by decide) rfl
    have hK9 := hK.sub (tys' := []) [] rfl
    rw [← hQ]
    exact W.zret (v := 1) hx hb hr rfl (fun t ht hW => ⟨⟨1, ((fun k => ([] : List Int32).getD k 0), (fun k => ([] : List (Nat → Int32)).getD k (fun _ => 0)), (fun k => ([] : List (Nat → Int64)).getD k (fun _ => 0))), rfl, ⟨(show (0 : Int) ≤ (1 : Int32).toInt ∧ (1 : Int32).toInt ≤ 1 by decide +kernel), (show ((1 : Int32).toInt = 0 ∨ ((0 : Int) ≤ p0.toInt + (0) ∧ (p0.toInt : Int) ≤ 0 + (11))) by right; omega), trivial⟩, by rw [ht]; exact hP9, va_K.moved hW.alike hK9, hD9⟩, hS.F ht⟩) hS.2.2 dX5_startsStatement_65
  have oc_12 := zk_ne rfl (by decide +kernel : (11 : Int32).toInt = 11) c_12
  refine lv_tableOut (tgt := 66) hx hb dX5_startsStatement_1 (by omega) (by decide) ?_
  refine lv_iconst (v := 0) hx hb dX5_startsStatement_66 (by decide +kernel) ?_
  have hP9 := hP.sub (ws' := []) [] rfl
  have hD9 := hD.sub (ws' := []) [] (by decide) rfl
  have hK9 := hK.sub (tys' := []) [] rfl
  rw [← hQ]
  exact W.zret (v := 0) hx hb hr rfl (fun t ht hW => ⟨⟨0, ((fun k => ([] : List Int32).getD k 0), (fun k => ([] : List (Nat → Int32)).getD k (fun _ => 0)), (fun k => ([] : List (Nat → Int64)).getD k (fun _ => 0))), rfl, ⟨(show (0 : Int) ≤ (0 : Int32).toInt ∧ (0 : Int32).toInt ≤ 1 by decide +kernel), (show ((0 : Int32).toInt = 0 ∨ ((0 : Int) ≤ p0.toInt + (0) ∧ (p0.toInt : Int) ≤ 0 + (11))) by exact Or.inl (by decide +kernel)), trivial⟩, by rw [ht]; exact hP9, va_K.moved hW.alike hK9, hD9⟩, hS.F ht⟩) hS.2.2 dX5_startsStatement_67
set_option maxHeartbeats 4000000 in
set_option maxRecDepth 100000 in
theorem zs_X5_isFull (l : Launch) (dC : Nat → ClassId) (dI : Nat → Nat → Nat) (h0 : Nat) (p1 : Int32) (v0_0 : Int32) (r0_1 : Nat) (r0_2 : Nat) (r0_3 : Nat) (r0_4 : Nat) (v0_5 : Int32) (r0_6 : Nat) (r0_7 : Nat) (r0_8 : Nat) (v1_0 : Int32) (v1_1 : Int32) (r1_2 : Nat) (r1_3 : Nat) (r1_4 : Nat) (r1_5 : Nat) (r1_6 : Nat) (r1_7 : Nat) (r1_8 : Nat) (r1_9 : Nat) (hq_v0_0 : (0 : Int) ≤ v0_0.toInt ∧ v0_0.toInt ≤ 4) (hq_v1_0 : (0 : Int) ≤ v1_0.toInt ∧ v1_0.toInt ≤ 14) (sz : Nat) : Met l yX5_isFull wsX5_isFull ({ frames := 0, cells := 0, slots := 0, locals := 0 }) (va_Pc [.ref h0, .int p1] (fun U => U.heap.size = sz ∧ va_P (dC, dI) vwCl [(h0, .inr (9, [.int v0_0, .ref r0_1, .ref r0_2, .ref r0_3, .ref r0_4, .int v0_5, .ref r0_6, .ref r0_7, .ref r0_8])), (r0_6, .inr (4, [.int v1_0, .int v1_1, .ref r1_2, .ref r1_3, .ref r1_4, .ref r1_5, .ref r1_6, .ref r1_7, .ref r1_8, .ref r1_9]))] U.heap ∧ va_K (dC, dI) vwCl [] U ∧ va_D (fun _ => True) [(h0, .inr (9, [.int v0_0, .ref r0_1, .ref r0_2, .ref r0_3, .ref r0_4, .int v0_5, .ref r0_6, .ref r0_7, .ref r0_8])), (r0_6, .inr (4, [.int v1_0, .int v1_1, .ref r1_2, .ref r1_3, .ref r1_4, .ref r1_5, .ref r1_6, .ref r1_7, .ref r1_8, .ref r1_9]))])) (va_Qi (fun (r : Int32) (u : zV) => ((0 : Int) ≤ r.toInt ∧ r.toInt ≤ 1) ∧ (r.toInt = 0 ∨ ((0 : Int) ≤ p1.toInt + (0) ∧ (p1.toInt : Int) ≤ 0 + (6) ∧ (p1.toInt : Int) ≤ v1_0.toInt + (0))) ∧ True) (fun u t => va_P (dC, dI) vwCl [(h0, .inr (9, [.int v0_0, .ref r0_1, .ref r0_2, .ref r0_3, .ref r0_4, .int v0_5, .ref r0_6, .ref r0_7, .ref r0_8])), (r0_6, .inr (4, [.int v1_0, .int v1_1, .ref r1_2, .ref r1_3, .ref r1_4, .ref r1_5, .ref r1_6, .ref r1_7, .ref r1_8, .ref r1_9]))] t.heap ∧ va_K (dC, dI) vwCl [] t ∧ va_D (va_A [(h0, .inr (9, [.int v0_0, .ref r0_1, .ref r0_2, .ref r0_3, .ref r0_4, .int v0_5, .ref r0_6, .ref r0_7, .ref r0_8])), (r0_6, .inr (4, [.int v1_0, .int v1_1, .ref r1_2, .ref r1_3, .ref r1_4, .ref r1_5, .ref r1_6, .ref r1_7, .ref r1_8, .ref r1_9]))] sz) [(h0, .inr (9, [.int v0_0, .ref r0_1, .ref r0_2, .ref r0_3, .ref r0_4, .int v0_5, .ref r0_6, .ref r0_7, .ref r0_8])), (r0_6, .inr (4, [.int v1_0, .int v1_1, .ref r1_2, .ref r1_3, .ref r1_4, .ref r1_5, .ref r1_6, .ref r1_7, .ref r1_8, .ref r1_9]))]) (va_A [(h0, .inr (9, [.int v0_0, .ref r0_1, .ref r0_2, .ref r0_3, .ref r0_4, .int v0_5, .ref r0_6, .ref r0_7, .ref r0_8])), (r0_6, .inr (4, [.int v1_0, .int v1_1, .ref r1_2, .ref r1_3, .ref r1_4, .ref r1_5, .ref r1_6, .ref r1_7, .ref r1_8, .ref r1_9]))] sz)) 0 0 (va_A [(h0, .inr (9, [.int v0_0, .ref r0_1, .ref r0_2, .ref r0_3, .ref r0_4, .int v0_5, .ref r0_6, .ref r0_7, .ref r0_8])), (r0_6, .inr (4, [.int v1_0, .int v1_1, .ref r1_2, .ref r1_3, .ref r1_4, .ref r1_5, .ref r1_6, .ref r1_7, .ref r1_8, .ref r1_9]))] sz) := by
  refine Met.ofW (cc := cX5_isFull) (maxL := 3) (ret := (some .boolean)) (by decide +kernel) rfl ?_
  intro p e s m args below meth c s₁ B hml hv
  obtain ⟨rfl, hsz, hP, hK, hD0⟩ := hv
  have hx := B.exec
  have hb := B.bytes
  have hr := B.returns
  have hts := atoms_spec (ws := wsX5_isFull) B.pre
  have hown : s.vm.findClass RX5 = some m.cls := findClass_of_methodNamed B.named
  have hlocks := B.notSynchronized
  subst hsz
  have hD := hD0.self (sz := s.heap.size)
  generalize hAe : va_A [(h0, .inr (9, [.int v0_0, .ref r0_1, .ref r0_2, .ref r0_3, .ref r0_4, .int v0_5, .ref r0_6, .ref r0_7, .ref r0_8])), (r0_6, .inr (4, [.int v1_0, .int v1_1, .ref r1_2, .ref r1_3, .ref r1_4, .ref r1_5, .ref r1_6, .ref r1_7, .ref r1_8, .ref r1_9]))] s.heap.size = A at hD ⊢
  have hA : ∀ q : Nat, s.heap.size ≤ q → A q := fun q h => by rw [← hAe]; exact Or.inr h
  have hS : va_S A s.heap s.heap [] := va_S.rf
  have hP : va_P (dC, dI) vwCl [(h0, .inr (9, [.int v0_0, .ref r0_1, .ref r0_2, .ref r0_3, .ref r0_4, .int v0_5, .ref r0_6, .ref r0_7, .ref r0_8])), (r0_6, .inr (4, [.int v1_0, .int v1_1, .ref r1_2, .ref r1_3, .ref r1_4, .ref r1_5, .ref r1_6, .ref r1_7, .ref r1_8, .ref r1_9]))] s.heap := hP
  have hl := lv_entry ([.ref h0, .int p1]) (n := 3) (Nat.le_of_ble_eq_true rfl)
  rw [lg_entry_eq]
  generalize (lg_sl ([.ref h0, .int p1]) ++ List.replicate (3 - (lg_sl ([.ref h0, .int p1])).length) Slot.unset).toArray = ls at hl ⊢
  have hl : lv_has ls 3 [(0, .ref h0), (1, .int p1)] := hl
  generalize hQ : MQ below (va_Qi (fun (r : Int32) (u : zV) => ((0 : Int) ≤ r.toInt ∧ r.toInt ≤ 1) ∧ (r.toInt = 0 ∨ ((0 : Int) ≤ p1.toInt + (0) ∧ (p1.toInt : Int) ≤ 0 + (6) ∧ (p1.toInt : Int) ≤ v1_0.toInt + (0))) ∧ True) (fun u t => va_P (dC, dI) vwCl [(h0, .inr (9, [.int v0_0, .ref r0_1, .ref r0_2, .ref r0_3, .ref r0_4, .int v0_5, .ref r0_6, .ref r0_7, .ref r0_8])), (r0_6, .inr (4, [.int v1_0, .int v1_1, .ref r1_2, .ref r1_3, .ref r1_4, .ref r1_5, .ref r1_6, .ref r1_7, .ref r1_8, .ref r1_9]))] t.heap ∧ va_K (dC, dI) vwCl [] t ∧ va_D A [(h0, .inr (9, [.int v0_0, .ref r0_1, .ref r0_2, .ref r0_3, .ref r0_4, .int v0_5, .ref r0_6, .ref r0_7, .ref r0_8])), (r0_6, .inr (4, [.int v1_0, .int v1_1, .ref r1_2, .ref r1_3, .ref r1_4, .ref r1_5, .ref r1_6, .ref r1_7, .ref r1_8, .ref r1_9]))]) A) ([.ref h0, .int p1] : List Value).toArray s 0 0 A = Q
  refine lv_iload_n hx hb dX5_isFull_0 rfl (lv_at hl 1 rfl) ?_
  refine lv_if_ne (tgt := 18) hx hb dX5_isFull_1 (by decide) (fun c_1 => ?_) (fun c_1 => ?_)
  · have oc_1 := zk_ne rfl (by decide +kernel : (0 : Int32).toInt = 0) c_1
    refine lv_iload_n hx hb dX5_isFull_18 rfl (lv_at hl 1 rfl) ?_
    refine lv_iconst (v := 5) hx hb dX5_isFull_19 (by decide +kernel) ?_
    have jp29_1 : ∀  (H : Heap) (locs : List Loc) (ls : Array Slot), (0 : Int) ≤ p1.toInt + (-5) → (p1.toInt : Int) ≤ 0 + (6) → va_P (dC, dI) vwCl [(h0, .inr (9, [.int v0_0, .ref r0_1, .ref r0_2, .ref r0_3, .ref r0_4, .int v0_5, .ref r0_6, .ref r0_7, .ref r0_8])), (r0_6, .inr (4, [.int v1_0, .int v1_1, .ref r1_2, .ref r1_3, .ref r1_4, .ref r1_5, .ref r1_6, .ref r1_7, .ref r1_8, .ref r1_9]))] H → va_D A [(h0, .inr (9, [.int v0_0, .ref r0_1, .ref r0_2, .ref r0_3, .ref r0_4, .int v0_5, .ref r0_6, .ref r0_7, .ref r0_8])), (r0_6, .inr (4, [.int v1_0, .int v1_1, .ref r1_2, .ref r1_3, .ref r1_4, .ref r1_5, .ref r1_6, .ref r1_7, .ref r1_8, .ref r1_9]))] → va_S A s.heap H locs → lv_has ls 3 [(0, .ref h0), (1, .int p1)] → W p l e (headSpec wsX5_isFull ({ frames := 0, cells := 0, slots := 0, locals := 0 })).room s m ([.ref h0, .int p1] : List Value).toArray below meth c H locs 0 0 Q (F0 m 29 ls []) := by
      intro H locs ls hj1_0 hj1_1  hP hD hS hl
      refine lv_iconst (v := 1) hx hb dX5_isFull_29 (by decide +kernel) ?_
      refine lv_goto (tgt := 34) hx hb dX5_isFull_30 (by decide) ?_
      refine lv_istore_n (lv' := [(2, .int 1), (0, .ref h0), (1, .int p1)]) hx hb dX5_isFull_34 rfl hl (by decide) rfl (fun ls hl => ?_)
      refine lv_iload_n hx hb dX5_isFull_35 rfl (lv_at hl 0 rfl) ?_
      refine lv_if_eq (tgt := 55) hx hb dX5_isFull_36 (by decide) (fun c_2 => by exfalso; have oc_2 := zk_eq (by decide +kernel : (1 : Int32).toInt = 1) (by decide +kernel : (0 : Int32).toInt = 0) c_2; omega) (fun c_2 => ?_)
      have oc_2 := zk_ne (by decide +kernel : (1 : Int32).toInt = 1) (by decide +kernel : (0 : Int32).toInt = 0) c_2
      refine lv_aload_n hx hb dX5_isFull_39 rfl (lv_at hl 1 rfl) ?_
      refine va_get (D := (dC, dI)) (ci := 9) (v := .ref r0_6) (C := RX9) (T := TX9) (N := 9) hx hb hts zn_X5_isFull_X9 hown hK hP 0 rfl rfl 6 (by decide) (hts (.fieldLink RX5 44 "ShortEnough$Task" "numbers" "LShortEnough$Numbers;") zw_X5_isFull_286) (fun _ h9 => h9) rfl dX5_isFull_40 ?_
      refine va_get (D := (dC, dI)) (ci := 4) (v := .int v1_0) (C := RX4) (T := TX4) (N := 10) hx hb hts zn_X5_isFull_X4 hown hK hP 1 rfl rfl 0 (by decide) (hts (.fieldLink RX5 48 "ShortEnough$Numbers" "count" "I") zw_X5_isFull_288) (fun _ h9 => h9) rfl dX5_isFull_43 ?_
      refine lv_bipush (v := 14) hx hb dX5_isFull_46 (by decide +kernel) ?_
      refine lv_icmp_lt (tgt := 55) hx hb dX5_isFull_48 (by decide) (fun c_3 => ?_) (fun c_3 => ?_)
      · have oc_3 := zk_lt rfl (by decide +kernel : (14 : Int32).toInt = 14) c_3
        refine lv_iconst (v := 0) hx hb dX5_isFull_55 (by decide +kernel) ?_
        have hP9 := hP.sub (ws' := [(h0, .inr (9, [.int v0_0, .ref r0_1, .ref r0_2, .ref r0_3, .ref r0_4, .int v0_5, .ref r0_6, .ref r0_7, .ref r0_8])), (r0_6, .inr (4, [.int v1_0, .int v1_1, .ref r1_2, .ref r1_3, .ref r1_4, .ref r1_5, .ref r1_6, .ref r1_7, .ref r1_8, .ref r1_9]))]) [0, 1] rfl
        have hD9 := hD.sub (ws' := [(h0, .inr (9, [.int v0_0, .ref r0_1, .ref r0_2, .ref r0_3, .ref r0_4, .int v0_5, .ref r0_6, .ref r0_7, .ref r0_8])), (r0_6, .inr (4, [.int v1_0, .int v1_1, .ref r1_2, .ref r1_3, .ref r1_4, .ref r1_5, .ref r1_6, .ref r1_7, .ref r1_8, .ref r1_9]))]) [0, 1] (by decide) rfl
        have hK9 := hK.sub (tys' := []) [] rfl
        rw [← hQ]
        exact W.zret (v := 0) hx hb hr rfl (fun t ht hW => ⟨⟨0, ((fun k => ([] : List Int32).getD k 0), (fun k => ([] : List (Nat → Int32)).getD k (fun _ => 0)), (fun k => ([] : List (Nat → Int64)).getD k (fun _ => 0))), rfl, ⟨(show (0 : Int) ≤ (0 : Int32).toInt ∧ (0 : Int32).toInt ≤ 1 by decide +kernel), (show ((0 : Int32).toInt = 0 ∨ ((0 : Int) ≤ p1.toInt + (0) ∧ (p1.toInt : Int) ≤ 0 + (6) ∧ (p1.toInt : Int) ≤ v1_0.toInt + (0))) by exact Or.inl (by decide +kernel)), trivial⟩, by rw [ht]; exact hP9, va_K.moved hW.alike hK9, hD9⟩, hS.F ht⟩) hS.2.2 dX5_isFull_56
      have oc_3 := zk_nlt rfl (by decide +kernel : (14 : Int32).toInt = 14) c_3
      refine lv_iconst (v := 1) hx hb dX5_isFull_51 (by decide +kernel) ?_
      refine lv_goto (tgt := 56) hx hb dX5_isFull_52 (by decide) ?_
      have hP9 := hP.sub (ws' := [(h0, .inr (9, [.int v0_0, .ref r0_1, .ref r0_2, .ref r0_3, .ref r0_4, .int v0_5, .ref r0_6, .ref r0_7, .ref r0_8])), (r0_6, .inr (4, [.int v1_0, .int v1_1, .ref r1_2, .ref r1_3, .ref r1_4, .ref r1_5, .ref r1_6, .ref r1_7, .ref r1_8, .ref r1_9]))]) [0, 1] rfl
      have hD9 := hD.sub (ws' := [(h0, .inr (9, [.int v0_0, .ref r0_1, .ref r0_2, .ref r0_3, .ref r0_4, .int v0_5, .ref r0_6, .ref r0_7, .ref r0_8])), (r0_6, .inr (4, [.int v1_0, .int v1_1, .ref r1_2, .ref r1_3, .ref r1_4, .ref r1_5, .ref r1_6, .ref r1_7, .ref r1_8, .ref r1_9]))]) [0, 1] (by decide) rfl
      have hK9 := hK.sub (tys' := []) [] rfl
      rw [← hQ]
      exact W.zret (v := 1) hx hb hr rfl (fun t ht hW => ⟨⟨1, ((fun k => ([] : List Int32).getD k 0), (fun k => ([] : List (Nat → Int32)).getD k (fun _ => 0)), (fun k => ([] : List (Nat → Int64)).getD k (fun _ => 0))), rfl, ⟨(show (0 : Int) ≤ (1 : Int32).toInt ∧ (1 : Int32).toInt ≤ 1 by decide +kernel), (show ((1 : Int32).toInt = 0 ∨ ((0 : Int) ≤ p1.toInt + (0) ∧ (p1.toInt : Int) ≤ 0 + (6) ∧ (p1.toInt : Int) ≤ v1_0.toInt + (0))) by right; omega), trivial⟩, by rw [ht]; exact hP9, va_K.moved hW.alike hK9, hD9⟩, hS.F ht⟩) hS.2.2 dX5_isFull_56
    refine lv_icmp_eq (tgt := 29) hx hb dX5_isFull_20 (by decide) (fun c_4 => ?_) (fun c_4 => ?_)
    · have oc_4 := zk_eq rfl (by decide +kernel : (5 : Int32).toInt = 5) c_4
      exact jp29_1   s.heap [] ls (by omega) (by omega)  hP hD hS (lv_sub hl [0, 1] rfl)
    have oc_4 := zk_ne rfl (by decide +kernel : (5 : Int32).toInt = 5) c_4
    refine lv_iload_n hx hb dX5_isFull_23 rfl (lv_at hl 1 rfl) ?_
    refine lv_bipush (v := 6) hx hb dX5_isFull_24 (by decide +kernel) ?_
    refine lv_icmp_ne (tgt := 33) hx hb dX5_isFull_26 (by decide) (fun c_5 => ?_) (fun c_5 => ?_)
    · have oc_5 := zk_ne rfl (by decide +kernel : (6 : Int32).toInt = 6) c_5
      refine lv_iconst (v := 0) hx hb dX5_isFull_33 (by decide +kernel) ?_
      refine lv_istore_n (lv' := [(2, .int 0), (0, .ref h0), (1, .int p1)]) hx hb dX5_isFull_34 rfl hl (by decide) rfl (fun ls hl => ?_)
      refine lv_iload_n hx hb dX5_isFull_35 rfl (lv_at hl 0 rfl) ?_
      refine lv_if_eq (tgt := 55) hx hb dX5_isFull_36 (by decide) (fun c_6 => ?_) (fun c_6 => by exfalso; have oc_6 := zk_ne (by decide +kernel : (0 : Int32).toInt = 0) (by decide +kernel : (0 : Int32).toInt = 0) c_6; omega)
      have oc_6 := zk_eq (by decide +kernel : (0 : Int32).toInt = 0) (by decide +kernel : (0 : Int32).toInt = 0) c_6
      refine lv_iconst (v := 0) hx hb dX5_isFull_55 (by decide +kernel) ?_
      have hP9 := hP.sub (ws' := [(h0, .inr (9, [.int v0_0, .ref r0_1, .ref r0_2, .ref r0_3, .ref r0_4, .int v0_5, .ref r0_6, .ref r0_7, .ref r0_8])), (r0_6, .inr (4, [.int v1_0, .int v1_1, .ref r1_2, .ref r1_3, .ref r1_4, .ref r1_5, .ref r1_6, .ref r1_7, .ref r1_8, .ref r1_9]))]) [0, 1] rfl
      have hD9 := hD.sub (ws' := [(h0, .inr (9, [.int v0_0, .ref r0_1, .ref r0_2, .ref r0_3, .ref r0_4, .int v0_5, .ref r0_6, .ref r0_7, .ref r0_8])), (r0_6, .inr (4, [.int v1_0, .int v1_1, .ref r1_2, .ref r1_3, .ref r1_4, .ref r1_5, .ref r1_6, .ref r1_7, .ref r1_8, .ref r1_9]))]) [0, 1] (by decide) rfl
      have hK9 := hK.sub (tys' := []) [] rfl
      rw [← hQ]
      exact W.zret (v := 0) hx hb hr rfl (fun t ht hW => ⟨⟨0, ((fun k => ([] : List Int32).getD k 0), (fun k => ([] : List (Nat → Int32)).getD k (fun _ => 0)), (fun k => ([] : List (Nat → Int64)).getD k (fun _ => 0))), rfl, ⟨(show (0 : Int) ≤ (0 : Int32).toInt ∧ (0 : Int32).toInt ≤ 1 by decide +kernel), (show ((0 : Int32).toInt = 0 ∨ ((0 : Int) ≤ p1.toInt + (0) ∧ (p1.toInt : Int) ≤ 0 + (6) ∧ (p1.toInt : Int) ≤ v1_0.toInt + (0))) by exact Or.inl (by decide +kernel)), trivial⟩, by rw [ht]; exact hP9, va_K.moved hW.alike hK9, hD9⟩, hS.F ht⟩) hS.2.2 dX5_isFull_56
    have oc_5 := zk_eq rfl (by decide +kernel : (6 : Int32).toInt = 6) c_5
    exact jp29_1   s.heap [] ls (by omega) (by omega)  hP hD hS (lv_sub hl [0, 1] rfl)
  have oc_1 := zk_eq rfl (by decide +kernel : (0 : Int32).toInt = 0) c_1
  refine lv_aload_n hx hb dX5_isFull_4 rfl (lv_at hl 0 rfl) ?_
  refine va_get (D := (dC, dI)) (ci := 9) (v := .int v0_0) (C := RX9) (T := TX9) (N := 9) hx hb hts zn_X5_isFull_X9 hown hK hP 0 rfl rfl 0 (by decide) (hts (.fieldLink RX5 41 "ShortEnough$Task" "formats" "I") zw_X5_isFull_289) (fun _ h9 => h9) rfl dX5_isFull_5 ?_
  refine lv_iconst (v := 4) hx hb dX5_isFull_8 (by decide +kernel) ?_
  refine lv_icmp_lt (tgt := 16) hx hb dX5_isFull_9 (by decide) (fun c_7 => ?_) (fun c_7 => ?_)
  · have oc_7 := zk_lt rfl (by decide +kernel : (4 : Int32).toInt = 4) c_7
    refine lv_iconst (v := 0) hx hb dX5_isFull_16 (by decide +kernel) ?_
    have hP9 := hP.sub (ws' := [(h0, .inr (9, [.int v0_0, .ref r0_1, .ref r0_2, .ref r0_3, .ref r0_4, .int v0_5, .ref r0_6, .ref r0_7, .ref r0_8])), (r0_6, .inr (4, [.int v1_0, .int v1_1, .ref r1_2, .ref r1_3, .ref r1_4, .ref r1_5, .ref r1_6, .ref r1_7, .ref r1_8, .ref r1_9]))]) [0, 1] rfl
    have hD9 := hD.sub (ws' := [(h0, .inr (9, [.int v0_0, .ref r0_1, .ref r0_2, .ref r0_3, .ref r0_4, .int v0_5, .ref r0_6, .ref r0_7, .ref r0_8])), (r0_6, .inr (4, [.int v1_0, .int v1_1, .ref r1_2, .ref r1_3, .ref r1_4, .ref r1_5, .ref r1_6, .ref r1_7, .ref r1_8, .ref r1_9]))]) [0, 1] (by decide) rfl
    have hK9 := hK.sub (tys' := []) [] rfl
    rw [← hQ]
    exact W.zret (v := 0) hx hb hr rfl (fun t ht hW => ⟨⟨0, ((fun k => ([] : List Int32).getD k 0), (fun k => ([] : List (Nat → Int32)).getD k (fun _ => 0)), (fun k => ([] : List (Nat → Int64)).getD k (fun _ => 0))), rfl, ⟨(show (0 : Int) ≤ (0 : Int32).toInt ∧ (0 : Int32).toInt ≤ 1 by decide +kernel), (show ((0 : Int32).toInt = 0 ∨ ((0 : Int) ≤ p1.toInt + (0) ∧ (p1.toInt : Int) ≤ 0 + (6) ∧ (p1.toInt : Int) ≤ v1_0.toInt + (0))) by exact Or.inl (by decide +kernel)), trivial⟩, by rw [ht]; exact hP9, va_K.moved hW.alike hK9, hD9⟩, hS.F ht⟩) hS.2.2 dX5_isFull_17
  have oc_7 := zk_nlt rfl (by decide +kernel : (4 : Int32).toInt = 4) c_7
  refine lv_iconst (v := 1) hx hb dX5_isFull_12 (by decide +kernel) ?_
  refine lv_goto (tgt := 17) hx hb dX5_isFull_13 (by decide) ?_
  have hP9 := hP.sub (ws' := [(h0, .inr (9, [.int v0_0, .ref r0_1, .ref r0_2, .ref r0_3, .ref r0_4, .int v0_5, .ref r0_6, .ref r0_7, .ref r0_8])), (r0_6, .inr (4, [.int v1_0, .int v1_1, .ref r1_2, .ref r1_3, .ref r1_4, .ref r1_5, .ref r1_6, .ref r1_7, .ref r1_8, .ref r1_9]))]) [0, 1] rfl
  have hD9 := hD.sub (ws' := [(h0, .inr (9, [.int v0_0, .ref r0_1, .ref r0_2, .ref r0_3, .ref r0_4, .int v0_5, .ref r0_6, .ref r0_7, .ref r0_8])), (r0_6, .inr (4, [.int v1_0, .int v1_1, .ref r1_2, .ref r1_3, .ref r1_4, .ref r1_5, .ref r1_6, .ref r1_7, .ref r1_8, .ref r1_9]))]) [0, 1] (by decide) rfl
  have hK9 := hK.sub (tys' := []) [] rfl
  rw [← hQ]
  exact W.zret (v := 1) hx hb hr rfl (fun t ht hW => ⟨⟨1, ((fun k => ([] : List Int32).getD k 0), (fun k => ([] : List (Nat → Int32)).getD k (fun _ => 0)), (fun k => ([] : List (Nat → Int64)).getD k (fun _ => 0))), rfl, ⟨(show (0 : Int) ≤ (1 : Int32).toInt ∧ (1 : Int32).toInt ≤ 1 by decide +kernel), (show ((1 : Int32).toInt = 0 ∨ ((0 : Int) ≤ p1.toInt + (0) ∧ (p1.toInt : Int) ≤ 0 + (6) ∧ (p1.toInt : Int) ≤ v1_0.toInt + (0))) by right; omega), trivial⟩, by rw [ht]; exact hP9, va_K.moved hW.alike hK9, hD9⟩, hS.F ht⟩) hS.2.2 dX5_isFull_17
set_option maxHeartbeats 4000000 in
set_option maxRecDepth 100000 in
theorem zs_X5_readSign (l : Launch) (dC : Nat → ClassId) (dI : Nat → Nat → Nat) (h0 : Nat) (p1 : Int32) (r0_0 : Nat) (v0_1 : Int32) (v0_2 : Int32) (v0_3 : Int32) (r1_0 : Nat) (r1_1 : Nat) (v1_2 : Int32) (v1_3 : Int32) (v1_4 : Int32) (v1_5 : Int32) (v1_6 : Int32) (v1_7 : Int32) (k2 : Nat) (f2 : Nat → Int32) (k3 : Nat) (f3 : Nat → Int32) (hq_v1_2 : (0 : Int) ≤ v1_2.toInt ∧ v1_2.toInt ≤ 1200) (hq_v1_3 : (0 : Int) ≤ v1_3.toInt ∧ v1_3.toInt ≤ 1200) (hq_v1_4 : (0 : Int) ≤ v1_4.toInt ∧ v1_4.toInt ≤ 5) (hq_v1_5 : (0 : Int) ≤ v1_5.toInt ∧ v1_5.toInt ≤ 1200) (hq_v1_7 : (-1 : Int) ≤ v1_7.toInt ∧ v1_7.toInt ≤ 12) (sz : Nat) : Met l yX5_readSign wsX5_readSign ({ frames := 2, cells := 0, slots := 0, locals := 46 }) (va_Pc [.ref h0, .int p1] (fun U => U.heap.size = sz ∧ va_P (dC, dI) vwCl [(h0, .inr (5, [.ref r0_0, .int v0_1, .int v0_2, .int v0_3])), (r0_0, .inr (10, [.ref r1_0, .ref r1_1, .int v1_2, .int v1_3, .int v1_4, .int v1_5, .int v1_6, .int v1_7])), (r1_1, .inl (k2, 1200, .inl f2)), (r1_0, .inl (k3, 13, .inl f3))] U.heap ∧ va_K (dC, dI) vwCl [(k2, .byte), (k3, .int)] U ∧ va_D (fun _ => True) [(h0, .inr (5, [.ref r0_0, .int v0_1, .int v0_2, .int v0_3])), (r0_0, .inr (10, [.ref r1_0, .ref r1_1, .int v1_2, .int v1_3, .int v1_4, .int v1_5, .int v1_6, .int v1_7])), (r1_1, .inl (k2, 1200, .inl f2)), (r1_0, .inl (k3, 13, .inl f3))])) (va_Qi (fun (r : Int32) (u : zV) => ((0 : Int) ≤ r.toInt ∧ r.toInt ≤ 1) ∧ ((0 : Int) ≤ (u.1 2).toInt ∧ (u.1 2).toInt ≤ 1200) ∧ ((0 : Int) ≤ (u.1 3).toInt ∧ (u.1 3).toInt ≤ 5) ∧ ((0 : Int) ≤ (u.1 4).toInt ∧ (u.1 4).toInt ≤ 1200) ∧ ((-1 : Int) ≤ (u.1 6).toInt ∧ (u.1 6).toInt ≤ 12) ∧ True) (fun u t => va_P (dC, dI) vwCl [(h0, .inr (5, [.ref r0_0, .int v0_1, .int (u.1 0), .int (u.1 1)])), (r0_0, .inr (10, [.ref r1_0, .ref r1_1, .int v1_2, .int (u.1 2), .int (u.1 3), .int (u.1 4), .int (u.1 5), .int (u.1 6)])), (r1_1, .inl (k2, 1200, .inl f2)), (r1_0, .inl (k3, 13, .inl f3))] t.heap ∧ va_K (dC, dI) vwCl [(k2, .byte), (k3, .int)] t ∧ va_D (va_A [(h0, .inr (5, [.ref r0_0, .int v0_1, .int v0_2, .int v0_3])), (r0_0, .inr (10, [.ref r1_0, .ref r1_1, .int v1_2, .int v1_3, .int v1_4, .int v1_5, .int v1_6, .int v1_7])), (r1_1, .inl (k2, 1200, .inl f2)), (r1_0, .inl (k3, 13, .inl f3))] sz) [(h0, .inr (5, [.ref r0_0, .int v0_1, .int (u.1 0), .int (u.1 1)])), (r0_0, .inr (10, [.ref r1_0, .ref r1_1, .int v1_2, .int (u.1 2), .int (u.1 3), .int (u.1 4), .int (u.1 5), .int (u.1 6)])), (r1_1, .inl (k2, 1200, .inl f2)), (r1_0, .inl (k3, 13, .inl f3))]) (va_A [(h0, .inr (5, [.ref r0_0, .int v0_1, .int v0_2, .int v0_3])), (r0_0, .inr (10, [.ref r1_0, .ref r1_1, .int v1_2, .int v1_3, .int v1_4, .int v1_5, .int v1_6, .int v1_7])), (r1_1, .inl (k2, 1200, .inl f2)), (r1_0, .inl (k3, 13, .inl f3))] sz)) 0 0 (va_A [(h0, .inr (5, [.ref r0_0, .int v0_1, .int v0_2, .int v0_3])), (r0_0, .inr (10, [.ref r1_0, .ref r1_1, .int v1_2, .int v1_3, .int v1_4, .int v1_5, .int v1_6, .int v1_7])), (r1_1, .inl (k2, 1200, .inl f2)), (r1_0, .inl (k3, 13, .inl f3))] sz) := by
  refine Met.ofW (cc := cX5_readSign) (maxL := 2) (ret := (some .boolean)) (by decide +kernel) rfl ?_
  intro p e s m args below meth c s₁ B hml hv
  obtain ⟨rfl, hsz, hP, hK, hD0⟩ := hv
  have hx := B.exec
  have hb := B.bytes
  have hr := B.returns
  have hts := atoms_spec (ws := wsX5_readSign) B.pre
  have hown : s.vm.findClass RX5 = some m.cls := findClass_of_methodNamed B.named
  have hlocks := B.notSynchronized
  subst hsz
  have hD := hD0.self (sz := s.heap.size)
  generalize hAe : va_A [(h0, .inr (5, [.ref r0_0, .int v0_1, .int v0_2, .int v0_3])), (r0_0, .inr (10, [.ref r1_0, .ref r1_1, .int v1_2, .int v1_3, .int v1_4, .int v1_5, .int v1_6, .int v1_7])), (r1_1, .inl (k2, 1200, .inl f2)), (r1_0, .inl (k3, 13, .inl f3))] s.heap.size = A at hD ⊢
  have hA : ∀ q : Nat, s.heap.size ≤ q → A q := fun q h => by rw [← hAe]; exact Or.inr h
  have hS : va_S A s.heap s.heap [] := va_S.rf
  have hP : va_P (dC, dI) vwCl [(h0, .inr (5, [.ref r0_0, .int v0_1, .int v0_2, .int v0_3])), (r0_0, .inr (10, [.ref r1_0, .ref r1_1, .int v1_2, .int v1_3, .int v1_4, .int v1_5, .int v1_6, .int v1_7])), (r1_1, .inl (k2, 1200, .inl f2)), (r1_0, .inl (k3, 13, .inl f3))] s.heap := hP
  have hl := lv_entry ([.ref h0, .int p1]) (n := 2) (Nat.le_of_ble_eq_true rfl)
  rw [lg_entry_eq]
  generalize (lg_sl ([.ref h0, .int p1]) ++ List.replicate (2 - (lg_sl ([.ref h0, .int p1])).length) Slot.unset).toArray = ls at hl ⊢
  have hl : lv_has ls 2 [(0, .ref h0), (1, .int p1)] := hl
  generalize hQ : MQ below (va_Qi (fun (r : Int32) (u : zV) => ((0 : Int) ≤ r.toInt ∧ r.toInt ≤ 1) ∧ ((0 : Int) ≤ (u.1 2).toInt ∧ (u.1 2).toInt ≤ 1200) ∧ ((0 : Int) ≤ (u.1 3).toInt ∧ (u.1 3).toInt ≤ 5) ∧ ((0 : Int) ≤ (u.1 4).toInt ∧ (u.1 4).toInt ≤ 1200) ∧ ((-1 : Int) ≤ (u.1 6).toInt ∧ (u.1 6).toInt ≤ 12) ∧ True) (fun u t => va_P (dC, dI) vwCl [(h0, .inr (5, [.ref r0_0, .int v0_1, .int (u.1 0), .int (u.1 1)])), (r0_0, .inr (10, [.ref r1_0, .ref r1_1, .int v1_2, .int (u.1 2), .int (u.1 3), .int (u.1 4), .int (u.1 5), .int (u.1 6)])), (r1_1, .inl (k2, 1200, .inl f2)), (r1_0, .inl (k3, 13, .inl f3))] t.heap ∧ va_K (dC, dI) vwCl [(k2, .byte), (k3, .int)] t ∧ va_D A [(h0, .inr (5, [.ref r0_0, .int v0_1, .int (u.1 0), .int (u.1 1)])), (r0_0, .inr (10, [.ref r1_0, .ref r1_1, .int v1_2, .int (u.1 2), .int (u.1 3), .int (u.1 4), .int (u.1 5), .int (u.1 6)])), (r1_1, .inl (k2, 1200, .inl f2)), (r1_0, .inl (k3, 13, .inl f3))]) A) ([.ref h0, .int p1] : List Value).toArray s 0 0 A = Q
  refine lv_aload_n hx hb dX5_readSign_0 rfl (lv_at hl 0 rfl) ?_
  refine va_get (D := (dC, dI)) (ci := 5) (v := .ref r0_0) (C := RX5) (T := TX5) (N := 4) hx hb hts zn_X5_readSign_X5 hown hK hP 0 rfl rfl 0 (by decide) (hts (.fieldLink RX5 12 "ShortEnough$Parser" "words" "LShortEnough$Words;") zw_X5_readSign_291) (fun _ h9 => h9) rfl dX5_readSign_1 ?_
  refine lv_iload_n hx hb dX5_readSign_4 rfl (lv_at hl 1 rfl) ?_
  have hPc := hP.sub (ws' := [(r0_0, .inr (10, [.ref r1_0, .ref r1_1, .int v1_2, .int v1_3, .int v1_4, .int v1_5, .int v1_6, .int v1_7]))]) [1] rfl
  have hDc := hD.sub (ws' := [(r0_0, .inr (10, [.ref r1_0, .ref r1_1, .int v1_2, .int v1_3, .int v1_4, .int v1_5, .int v1_6, .int v1_7]))]) [1] (by decide) rfl
  have hKc := hK.sub (tys' := []) [] rfl
  have hFc := va_free (wc := [(r0_0, .inr (10, [.ref r1_0, .ref r1_1, .int v1_2, .int v1_3, .int v1_4, .int v1_5, .int v1_6, .int v1_7]))]) hD hS hA [1] rfl
  refine va_calli (va_runV (As := [.int p1]) (rest := []) ⟨hx, hb, hml, hown, hts⟩ (zs_X10_isSign l dC dI r0_0 p1 r1_0 r1_1 v1_2 v1_3 v1_4 v1_5 v1_6 v1_7 (by omega) (by omega) (by omega) (by omega) (by omega) s.heap.size) (cwV 1 hts gX5_readSign_X10_isSign rfl rfl rfl (by decide +kernel) ⟨Nat.le_of_ble_eq_true rfl, Nat.le_of_ble_eq_true rfl⟩) ⟨fun a U g mk q => by obtain ⟨q0, q1, qP, qK, qD⟩ := q; exact ⟨q0, q1, qP, va_K.moved (u := U) (U := U.calling g mk a) (Vm.Alike.refl U.vm) qK, qD⟩, va_recv hKc hPc (ci := 10) (q0 := 0) rfl rfl, fun U hU hW => ⟨rfl, by rw [hU], by rw [hU]; exact hPc, va_K.moved hW.alike hKc, hDc.weaken (fun _ _ _ _ => trivial)⟩⟩ rfl rfl hl.1 rfl (lv_room (Nat.le_of_ble_eq_true rfl)) dX5_readSign_5 ⟨Nat.le_of_ble_eq_true rfl, Nat.le_of_ble_eq_true rfl⟩) hS (fun q _ h => hFc q h) hFc (fun r_1 u_2 t H1 locs ht hvm hw_3 hB hz1 hk1 hS => ?_)
  obtain ⟨hP1, hK1, hD1⟩ := hB
  rw [ht] at hP1
  have hK1 := va_K.moved hvm.symm hK1
  obtain ⟨hP, hD⟩ := va_join (wr := [(h0, .inr (5, [.ref r0_0, .int v0_1, .int v0_2, .int v0_3])), (r1_1, .inl (k2, 1200, .inl f2)), (r1_0, .inl (k3, 13, .inl f3))]) (w1 := [(r0_0, .inr (10, [.ref r1_0, .ref r1_1, .int v1_2, .int v1_3, .int v1_4, .int v1_5, .int v1_6, .int v1_7]))]) hP hD [1] [0, 2, 3] rfl rfl (by decide) (by decide) hk1 hFc hP1 hD1
  have hK := hK
  generalize H1 = H at hP hS ⊢
  have hP := hP.sub (ws' := [(h0, .inr (5, [.ref r0_0, .int v0_1, .int v0_2, .int v0_3])), (r0_0, .inr (10, [.ref r1_0, .ref r1_1, .int v1_2, .int v1_3, .int v1_4, .int v1_5, .int v1_6, .int v1_7])), (r1_1, .inl (k2, 1200, .inl f2)), (r1_0, .inl (k3, 13, .inl f3))]) [0, 3, 1, 2] rfl
  have hD := hD.sub (ws' := [(h0, .inr (5, [.ref r0_0, .int v0_1, .int v0_2, .int v0_3])), (r0_0, .inr (10, [.ref r1_0, .ref r1_1, .int v1_2, .int v1_3, .int v1_4, .int v1_5, .int v1_6, .int v1_7])), (r1_1, .inl (k2, 1200, .inl f2)), (r1_0, .inl (k3, 13, .inl f3))]) [0, 3, 1, 2] (by decide) rfl
  have hP : va_P (dC, dI) vwCl [(h0, .inr (5, [.ref r0_0, .int v0_1, .int v0_2, .int v0_3])), (r0_0, .inr (10, [.ref r1_0, .ref r1_1, .int v1_2, .int v1_3, .int v1_4, .int v1_5, .int v1_6, .int v1_7])), (r1_1, .inl (k2, 1200, .inl f2)), (r1_0, .inl (k3, 13, .inl f3))] H := hP
  have hD : va_D A [(h0, .inr (5, [.ref r0_0, .int v0_1, .int v0_2, .int v0_3])), (r0_0, .inr (10, [.ref r1_0, .ref r1_1, .int v1_2, .int v1_3, .int v1_4, .int v1_5, .int v1_6, .int v1_7])), (r1_1, .inl (k2, 1200, .inl f2)), (r1_0, .inl (k3, 13, .inl f3))] := hD
  obtain ⟨hr_1, hir_1, -⟩ := hw_3
  refine lv_if_ne (tgt := 24) hx hb dX5_readSign_8 (by decide) (fun c_4 => ?_) (fun c_4 => ?_)
  · have oc_4 := zk_ne rfl (by decide +kernel : (0 : Int32).toInt = 0) c_4
    refine lv_aload_n hx hb dX5_readSign_24 rfl (lv_at hl 0 rfl) ?_
    refine va_get (D := (dC, dI)) (ci := 5) (v := .ref r0_0) (C := RX5) (T := TX5) (N := 4) hx hb hts zn_X5_readSign_X5 hown hK hP 0 rfl rfl 0 (by decide) (hts (.fieldLink RX5 12 "ShortEnough$Parser" "words" "LShortEnough$Words;") zw_X5_readSign_291) (fun _ h9 => h9) rfl dX5_readSign_25 ?_
    have hPc := hP.sub (ws' := [(r0_0, .inr (10, [.ref r1_0, .ref r1_1, .int v1_2, .int v1_3, .int v1_4, .int v1_5, .int v1_6, .int v1_7])), (r1_1, .inl (k2, 1200, .inl f2)), (r1_0, .inl (k3, 13, .inl f3))]) [1, 2, 3] rfl
    have hDc := hD.sub (ws' := [(r0_0, .inr (10, [.ref r1_0, .ref r1_1, .int v1_2, .int v1_3, .int v1_4, .int v1_5, .int v1_6, .int v1_7])), (r1_1, .inl (k2, 1200, .inl f2)), (r1_0, .inl (k3, 13, .inl f3))]) [1, 2, 3] (by decide) rfl
    have hKc := hK.sub (tys' := [(k2, .byte), (k3, .int)]) [0, 1] rfl
    have hFc := va_free (wc := [(r0_0, .inr (10, [.ref r1_0, .ref r1_1, .int v1_2, .int v1_3, .int v1_4, .int v1_5, .int v1_6, .int v1_7])), (r1_1, .inl (k2, 1200, .inl f2)), (r1_0, .inl (k3, 13, .inl f3))]) hD hS hA [1, 2, 3] rfl
    refine va_callv (va_runV (As := []) (rest := []) ⟨hx, hb, hml, hown, hts⟩ (zs_X10_advance l dC dI r0_0 r1_0 r1_1 v1_2 v1_3 v1_4 v1_5 v1_6 v1_7 k2 f2 k3 f3 (by omega) (by omega) (by omega) (by omega) (by omega) H.size) (cwV 0 hts gX5_readSign_X10_advance rfl rfl rfl (by decide +kernel) ⟨Nat.le_of_ble_eq_true rfl, Nat.le_of_ble_eq_true rfl⟩) ⟨fun a U g mk q => by obtain ⟨q0, q1, qP, qK, qD⟩ := q; exact ⟨q0, q1, qP, va_K.moved (u := U) (U := U.calling g mk a) (Vm.Alike.refl U.vm) qK, qD⟩, va_recv hKc hPc (ci := 10) (q0 := 0) rfl rfl, fun U hU hW => ⟨rfl, by rw [hU], by rw [hU]; exact hPc, va_K.moved hW.alike hKc, hDc.weaken (fun _ _ _ _ => trivial)⟩⟩ rfl rfl hl.1 rfl (lv_room (Nat.le_of_ble_eq_true rfl)) dX5_readSign_28 ⟨Nat.le_of_ble_eq_true rfl, Nat.le_of_ble_eq_true rfl⟩) hS (fun q _ h => hFc q h) hFc (fun u_6 t H1 locs ht hvm hw_7 hB hz1 hk1 hS => ?_)
    obtain ⟨hP1, hK1, hD1⟩ := hB
    rw [ht] at hP1
    have hK1 := va_K.moved hvm.symm hK1
    obtain ⟨hP, hD⟩ := va_join (wr := [(h0, .inr (5, [.ref r0_0, .int v0_1, .int v0_2, .int v0_3]))]) (w1 := [(r0_0, .inr (10, [.ref r1_0, .ref r1_1, .int v1_2, .int (u_6.1 0), .int (u_6.1 1), .int (u_6.1 2), .int (u_6.1 3), .int (u_6.1 4)])), (r1_1, .inl (k2, 1200, .inl f2)), (r1_0, .inl (k3, 13, .inl f3))]) hP hD [1, 2, 3] [0] rfl rfl (by decide) (by decide) hk1 hFc hP1 hD1
    have hK := hK
    generalize H1 = H at hP hS ⊢
    have hP := hP.sub (ws' := [(h0, .inr (5, [.ref r0_0, .int v0_1, .int v0_2, .int v0_3])), (r0_0, .inr (10, [.ref r1_0, .ref r1_1, .int v1_2, .int (u_6.1 0), .int (u_6.1 1), .int (u_6.1 2), .int (u_6.1 3), .int (u_6.1 4)])), (r1_1, .inl (k2, 1200, .inl f2)), (r1_0, .inl (k3, 13, .inl f3))]) [0, 1, 2, 3] rfl
    have hD := hD.sub (ws' := [(h0, .inr (5, [.ref r0_0, .int v0_1, .int v0_2, .int v0_3])), (r0_0, .inr (10, [.ref r1_0, .ref r1_1, .int v1_2, .int (u_6.1 0), .int (u_6.1 1), .int (u_6.1 2), .int (u_6.1 3), .int (u_6.1 4)])), (r1_1, .inl (k2, 1200, .inl f2)), (r1_0, .inl (k3, 13, .inl f3))]) [0, 1, 2, 3] (by decide) rfl
    have hP : va_P (dC, dI) vwCl [(h0, .inr (5, [.ref r0_0, .int v0_1, .int v0_2, .int v0_3])), (r0_0, .inr (10, [.ref r1_0, .ref r1_1, .int v1_2, .int (u_6.1 0), .int (u_6.1 1), .int (u_6.1 2), .int (u_6.1 3), .int (u_6.1 4)])), (r1_1, .inl (k2, 1200, .inl f2)), (r1_0, .inl (k3, 13, .inl f3))] H := hP
    have hD : va_D A [(h0, .inr (5, [.ref r0_0, .int v0_1, .int v0_2, .int v0_3])), (r0_0, .inr (10, [.ref r1_0, .ref r1_1, .int v1_2, .int (u_6.1 0), .int (u_6.1 1), .int (u_6.1 2), .int (u_6.1 3), .int (u_6.1 4)])), (r1_1, .inl (k2, 1200, .inl f2)), (r1_0, .inl (k3, 13, .inl f3))] := hD
    obtain ⟨hmr_5_0, hmr_5_1, hmr_5_2, hmr_5_3, -⟩ := hw_7
    refine lv_iconst (v := 1) hx hb dX5_readSign_31 (by decide +kernel) ?_
    have hP9 := hP.sub (ws' := [(h0, .inr (5, [.ref r0_0, .int v0_1, .int v0_2, .int v0_3])), (r0_0, .inr (10, [.ref r1_0, .ref r1_1, .int v1_2, .int (u_6.1 0), .int (u_6.1 1), .int (u_6.1 2), .int (u_6.1 3), .int (u_6.1 4)])), (r1_1, .inl (k2, 1200, .inl f2)), (r1_0, .inl (k3, 13, .inl f3))]) [0, 1, 2, 3] rfl
    have hD9 := hD.sub (ws' := [(h0, .inr (5, [.ref r0_0, .int v0_1, .int v0_2, .int v0_3])), (r0_0, .inr (10, [.ref r1_0, .ref r1_1, .int v1_2, .int (u_6.1 0), .int (u_6.1 1), .int (u_6.1 2), .int (u_6.1 3), .int (u_6.1 4)])), (r1_1, .inl (k2, 1200, .inl f2)), (r1_0, .inl (k3, 13, .inl f3))]) [0, 1, 2, 3] (by decide) rfl
    have hK9 := hK.sub (tys' := [(k2, .byte), (k3, .int)]) [0, 1] rfl
    rw [← hQ]
    exact W.zret (v := 1) hx hb hr rfl (fun t ht hW => ⟨⟨1, ((fun k => ([v0_2, v0_3, (u_6.1 0), (u_6.1 1), (u_6.1 2), (u_6.1 3), (u_6.1 4)] : List Int32).getD k 0), (fun k => ([] : List (Nat → Int32)).getD k (fun _ => 0)), (fun k => ([] : List (Nat → Int64)).getD k (fun _ => 0))), rfl, ⟨(show (0 : Int) ≤ (1 : Int32).toInt ∧ (1 : Int32).toInt ≤ 1 by decide +kernel), (show (0 : Int) ≤ ((u_6.1 0) : Int32).toInt ∧ ((u_6.1 0) : Int32).toInt ≤ 1200 by omega), (show (0 : Int) ≤ ((u_6.1 1) : Int32).toInt ∧ ((u_6.1 1) : Int32).toInt ≤ 5 by omega), (show (0 : Int) ≤ ((u_6.1 2) : Int32).toInt ∧ ((u_6.1 2) : Int32).toInt ≤ 1200 by omega), (show (-1 : Int) ≤ ((u_6.1 4) : Int32).toInt ∧ ((u_6.1 4) : Int32).toInt ≤ 12 by omega), trivial⟩, by rw [ht]; exact hP9, va_K.moved hW.alike hK9, hD9⟩, hS.F ht⟩) hS.2.2 dX5_readSign_32
  have oc_4 := zk_eq rfl (by decide +kernel : (0 : Int32).toInt = 0) c_4
  refine lv_aload_n hx hb dX5_readSign_11 rfl (lv_at hl 0 rfl) ?_
  refine lv_iconst (v := 1) hx hb dX5_readSign_12 (by decide +kernel) ?_
  refine lv_aload_n hx hb dX5_readSign_13 rfl (lv_at hl 0 rfl) ?_
  refine va_get (D := (dC, dI)) (ci := 5) (v := .ref r0_0) (C := RX5) (T := TX5) (N := 4) hx hb hts zn_X5_readSign_X5 hown hK hP 0 rfl rfl 0 (by decide) (hts (.fieldLink RX5 12 "ShortEnough$Parser" "words" "LShortEnough$Words;") zw_X5_readSign_291) (fun _ h9 => h9) rfl dX5_readSign_14 ?_
  refine va_get (D := (dC, dI)) (ci := 10) (v := .int v1_5) (C := RX10) (T := TX10) (N := 8) hx hb hts zn_X5_readSign_X10 hown hK hP 1 rfl rfl 5 (by decide) (hts (.fieldLink RX5 64 "ShortEnough$Words" "start" "I") zw_X5_readSign_293) (fun _ h9 => h9) rfl dX5_readSign_17 ?_
  have hPc := hP.sub (ws' := [(h0, .inr (5, [.ref r0_0, .int v0_1, .int v0_2, .int v0_3]))]) [0] rfl
  have hDc := hD.sub (ws' := [(h0, .inr (5, [.ref r0_0, .int v0_1, .int v0_2, .int v0_3]))]) [0] (by decide) rfl
  have hKc := hK.sub (tys' := []) [] rfl
  have hFc := va_free (wc := [(h0, .inr (5, [.ref r0_0, .int v0_1, .int v0_2, .int v0_3]))]) hD hS hA [0] rfl
  refine va_calli (va_runV (As := [.int 1, .int v1_5]) (rest := []) ⟨hx, hb, hml, hown, hts⟩ (zs_X5_stopAt l dC dI h0 1 v1_5 r0_0 v0_1 v0_2 v0_3  H.size) (cwV 2 hts gX5_readSign_X5_stopAt rfl rfl rfl (by decide +kernel) ⟨Nat.le_of_ble_eq_true rfl, Nat.le_of_ble_eq_true rfl⟩) ⟨fun a U g mk q => by obtain ⟨q0, q1, qP, qK, qD⟩ := q; exact ⟨q0, q1, qP, va_K.moved (u := U) (U := U.calling g mk a) (Vm.Alike.refl U.vm) qK, qD⟩, va_recv hKc hPc (ci := 5) (q0 := 0) rfl rfl, fun U hU hW => ⟨rfl, by rw [hU], by rw [hU]; exact hPc, va_K.moved hW.alike hKc, hDc.weaken (fun _ _ _ _ => trivial)⟩⟩ rfl rfl hl.1 rfl (lv_room (Nat.le_of_ble_eq_true rfl)) dX5_readSign_20 ⟨Nat.le_of_ble_eq_true rfl, Nat.le_of_ble_eq_true rfl⟩) hS (fun q _ h => hFc q h) hFc (fun r_8 u_9 t H1 locs ht hvm hw_10 hB hz1 hk1 hS => ?_)
  obtain ⟨hP1, hK1, hD1⟩ := hB
  rw [ht] at hP1
  have hK1 := va_K.moved hvm.symm hK1
  obtain ⟨hP, hD⟩ := va_join (wr := [(r0_0, .inr (10, [.ref r1_0, .ref r1_1, .int v1_2, .int v1_3, .int v1_4, .int v1_5, .int v1_6, .int v1_7])), (r1_1, .inl (k2, 1200, .inl f2)), (r1_0, .inl (k3, 13, .inl f3))]) (w1 := [(h0, .inr (5, [.ref r0_0, .int v0_1, .int (u_9.1 0), .int (u_9.1 1)]))]) hP hD [0] [1, 2, 3] rfl rfl (by decide) (by decide) hk1 hFc hP1 hD1
  have hK := hK
  generalize H1 = H at hP hS ⊢
  have hP := hP.sub (ws' := [(h0, .inr (5, [.ref r0_0, .int v0_1, .int (u_9.1 0), .int (u_9.1 1)])), (r0_0, .inr (10, [.ref r1_0, .ref r1_1, .int v1_2, .int v1_3, .int v1_4, .int v1_5, .int v1_6, .int v1_7])), (r1_1, .inl (k2, 1200, .inl f2)), (r1_0, .inl (k3, 13, .inl f3))]) [3, 0, 1, 2] rfl
  have hD := hD.sub (ws' := [(h0, .inr (5, [.ref r0_0, .int v0_1, .int (u_9.1 0), .int (u_9.1 1)])), (r0_0, .inr (10, [.ref r1_0, .ref r1_1, .int v1_2, .int v1_3, .int v1_4, .int v1_5, .int v1_6, .int v1_7])), (r1_1, .inl (k2, 1200, .inl f2)), (r1_0, .inl (k3, 13, .inl f3))]) [3, 0, 1, 2] (by decide) rfl
  have hP : va_P (dC, dI) vwCl [(h0, .inr (5, [.ref r0_0, .int v0_1, .int (u_9.1 0), .int (u_9.1 1)])), (r0_0, .inr (10, [.ref r1_0, .ref r1_1, .int v1_2, .int v1_3, .int v1_4, .int v1_5, .int v1_6, .int v1_7])), (r1_1, .inl (k2, 1200, .inl f2)), (r1_0, .inl (k3, 13, .inl f3))] H := hP
  have hD : va_D A [(h0, .inr (5, [.ref r0_0, .int v0_1, .int (u_9.1 0), .int (u_9.1 1)])), (r0_0, .inr (10, [.ref r1_0, .ref r1_1, .int v1_2, .int v1_3, .int v1_4, .int v1_5, .int v1_6, .int v1_7])), (r1_1, .inl (k2, 1200, .inl f2)), (r1_0, .inl (k3, 13, .inl f3))] := hD
  obtain ⟨hr_8, -⟩ := hw_10
  have hP9 := hP.sub (ws' := [(h0, .inr (5, [.ref r0_0, .int v0_1, .int (u_9.1 0), .int (u_9.1 1)])), (r0_0, .inr (10, [.ref r1_0, .ref r1_1, .int v1_2, .int v1_3, .int v1_4, .int v1_5, .int v1_6, .int v1_7])), (r1_1, .inl (k2, 1200, .inl f2)), (r1_0, .inl (k3, 13, .inl f3))]) [0, 1, 2, 3] rfl
  have hD9 := hD.sub (ws' := [(h0, .inr (5, [.ref r0_0, .int v0_1, .int (u_9.1 0), .int (u_9.1 1)])), (r0_0, .inr (10, [.ref r1_0, .ref r1_1, .int v1_2, .int v1_3, .int v1_4, .int v1_5, .int v1_6, .int v1_7])), (r1_1, .inl (k2, 1200, .inl f2)), (r1_0, .inl (k3, 13, .inl f3))]) [0, 1, 2, 3] (by decide) rfl
  have hK9 := hK.sub (tys' := [(k2, .byte), (k3, .int)]) [0, 1] rfl
  rw [← hQ]
  exact W.zret (v := r_8) hx hb hr (zn_b (by omega)) (fun t ht hW => ⟨⟨r_8, ((fun k => ([(u_9.1 0), (u_9.1 1), v1_3, v1_4, v1_5, v1_6, v1_7] : List Int32).getD k 0), (fun k => ([] : List (Nat → Int32)).getD k (fun _ => 0)), (fun k => ([] : List (Nat → Int64)).getD k (fun _ => 0))), rfl, ⟨(show (0 : Int) ≤ (r_8 : Int32).toInt ∧ (r_8 : Int32).toInt ≤ 1 by omega), (show (0 : Int) ≤ (v1_3 : Int32).toInt ∧ (v1_3 : Int32).toInt ≤ 1200 by omega), (show (0 : Int) ≤ (v1_4 : Int32).toInt ∧ (v1_4 : Int32).toInt ≤ 5 by omega), (show (0 : Int) ≤ (v1_5 : Int32).toInt ∧ (v1_5 : Int32).toInt ≤ 1200 by omega), (show (-1 : Int) ≤ (v1_7 : Int32).toInt ∧ (v1_7 : Int32).toInt ≤ 12 by omega), trivial⟩, by rw [ht]; exact hP9, va_K.moved hW.alike hK9, hD9⟩, hS.F ht⟩) hS.2.2 dX5_readSign_23
set_option maxHeartbeats 4000000 in
set_option maxRecDepth 100000 in
theorem zs_X5_readOwn (l : Launch) (dC : Nat → ClassId) (dI : Nat → Nat → Nat) (h0 : Nat) (p1 : Int32) (r0_0 : Nat) (v0_1 : Int32) (v0_2 : Int32) (v0_3 : Int32) (r1_0 : Nat) (r1_1 : Nat) (v1_2 : Int32) (v1_3 : Int32) (v1_4 : Int32) (v1_5 : Int32) (v1_6 : Int32) (v1_7 : Int32) (k2 : Nat) (f2 : Nat → Int32) (k3 : Nat) (f3 : Nat → Int32) (hq_v1_2 : (0 : Int) ≤ v1_2.toInt ∧ v1_2.toInt ≤ 1200) (hq_v1_3 : (0 : Int) ≤ v1_3.toInt ∧ v1_3.toInt ≤ 1200) (hq_v1_4 : (0 : Int) ≤ v1_4.toInt ∧ v1_4.toInt ≤ 5) (hq_v1_5 : (0 : Int) ≤ v1_5.toInt ∧ v1_5.toInt ≤ 1200) (hq_v1_7 : (-1 : Int) ≤ v1_7.toInt ∧ v1_7.toInt ≤ 12) (sz : Nat) : Met l yX5_readOwn wsX5_readOwn ({ frames := 2, cells := 0, slots := 0, locals := 46 }) (va_Pc [.ref h0, .int p1] (fun U => U.heap.size = sz ∧ va_P (dC, dI) vwCl [(h0, .inr (5, [.ref r0_0, .int v0_1, .int v0_2, .int v0_3])), (r0_0, .inr (10, [.ref r1_0, .ref r1_1, .int v1_2, .int v1_3, .int v1_4, .int v1_5, .int v1_6, .int v1_7])), (r1_1, .inl (k2, 1200, .inl f2)), (r1_0, .inl (k3, 13, .inl f3))] U.heap ∧ va_K (dC, dI) vwCl [(k2, .byte), (k3, .int)] U ∧ va_D (fun _ => True) [(h0, .inr (5, [.ref r0_0, .int v0_1, .int v0_2, .int v0_3])), (r0_0, .inr (10, [.ref r1_0, .ref r1_1, .int v1_2, .int v1_3, .int v1_4, .int v1_5, .int v1_6, .int v1_7])), (r1_1, .inl (k2, 1200, .inl f2)), (r1_0, .inl (k3, 13, .inl f3))])) (va_Qi (fun (r : Int32) (u : zV) => ((0 : Int) ≤ r.toInt ∧ r.toInt ≤ 1) ∧ ((0 : Int) ≤ (u.1 2).toInt ∧ (u.1 2).toInt ≤ 1200) ∧ ((0 : Int) ≤ (u.1 3).toInt ∧ (u.1 3).toInt ≤ 5) ∧ ((0 : Int) ≤ (u.1 4).toInt ∧ (u.1 4).toInt ≤ 1200) ∧ ((-1 : Int) ≤ (u.1 6).toInt ∧ (u.1 6).toInt ≤ 12) ∧ True) (fun u t => va_P (dC, dI) vwCl [(h0, .inr (5, [.ref r0_0, .int v0_1, .int (u.1 0), .int (u.1 1)])), (r0_0, .inr (10, [.ref r1_0, .ref r1_1, .int v1_2, .int (u.1 2), .int (u.1 3), .int (u.1 4), .int (u.1 5), .int (u.1 6)])), (r1_1, .inl (k2, 1200, .inl f2)), (r1_0, .inl (k3, 13, .inl f3))] t.heap ∧ va_K (dC, dI) vwCl [(k2, .byte), (k3, .int)] t ∧ va_D (va_A [(h0, .inr (5, [.ref r0_0, .int v0_1, .int v0_2, .int v0_3])), (r0_0, .inr (10, [.ref r1_0, .ref r1_1, .int v1_2, .int v1_3, .int v1_4, .int v1_5, .int v1_6, .int v1_7])), (r1_1, .inl (k2, 1200, .inl f2)), (r1_0, .inl (k3, 13, .inl f3))] sz) [(h0, .inr (5, [.ref r0_0, .int v0_1, .int (u.1 0), .int (u.1 1)])), (r0_0, .inr (10, [.ref r1_0, .ref r1_1, .int v1_2, .int (u.1 2), .int (u.1 3), .int (u.1 4), .int (u.1 5), .int (u.1 6)])), (r1_1, .inl (k2, 1200, .inl f2)), (r1_0, .inl (k3, 13, .inl f3))]) (va_A [(h0, .inr (5, [.ref r0_0, .int v0_1, .int v0_2, .int v0_3])), (r0_0, .inr (10, [.ref r1_0, .ref r1_1, .int v1_2, .int v1_3, .int v1_4, .int v1_5, .int v1_6, .int v1_7])), (r1_1, .inl (k2, 1200, .inl f2)), (r1_0, .inl (k3, 13, .inl f3))] sz)) 0 0 (va_A [(h0, .inr (5, [.ref r0_0, .int v0_1, .int v0_2, .int v0_3])), (r0_0, .inr (10, [.ref r1_0, .ref r1_1, .int v1_2, .int v1_3, .int v1_4, .int v1_5, .int v1_6, .int v1_7])), (r1_1, .inl (k2, 1200, .inl f2)), (r1_0, .inl (k3, 13, .inl f3))] sz) := by
  refine Met.ofW (cc := cX5_readOwn) (maxL := 2) (ret := (some .boolean)) (by decide +kernel) rfl ?_
  intro p e s m args below meth c s₁ B hml hv
  obtain ⟨rfl, hsz, hP, hK, hD0⟩ := hv
  have hx := B.exec
  have hb := B.bytes
  have hr := B.returns
  have hts := atoms_spec (ws := wsX5_readOwn) B.pre
  have hown : s.vm.findClass RX5 = some m.cls := findClass_of_methodNamed B.named
  have hlocks := B.notSynchronized
  subst hsz
  have hD := hD0.self (sz := s.heap.size)
  generalize hAe : va_A [(h0, .inr (5, [.ref r0_0, .int v0_1, .int v0_2, .int v0_3])), (r0_0, .inr (10, [.ref r1_0, .ref r1_1, .int v1_2, .int v1_3, .int v1_4, .int v1_5, .int v1_6, .int v1_7])), (r1_1, .inl (k2, 1200, .inl f2)), (r1_0, .inl (k3, 13, .inl f3))] s.heap.size = A at hD ⊢
  have hA : ∀ q : Nat, s.heap.size ≤ q → A q := fun q h => by rw [← hAe]; exact Or.inr h
  have hS : va_S A s.heap s.heap [] := va_S.rf
  have hP : va_P (dC, dI) vwCl [(h0, .inr (5, [.ref r0_0, .int v0_1, .int v0_2, .int v0_3])), (r0_0, .inr (10, [.ref r1_0, .ref r1_1, .int v1_2, .int v1_3, .int v1_4, .int v1_5, .int v1_6, .int v1_7])), (r1_1, .inl (k2, 1200, .inl f2)), (r1_0, .inl (k3, 13, .inl f3))] s.heap := hP
  have hl := lv_entry ([.ref h0, .int p1]) (n := 2) (Nat.le_of_ble_eq_true rfl)
  rw [lg_entry_eq]
  generalize (lg_sl ([.ref h0, .int p1]) ++ List.replicate (2 - (lg_sl ([.ref h0, .int p1])).length) Slot.unset).toArray = ls at hl ⊢
  have hl : lv_has ls 2 [(0, .ref h0), (1, .int p1)] := hl
  generalize hQ : MQ below (va_Qi (fun (r : Int32) (u : zV) => ((0 : Int) ≤ r.toInt ∧ r.toInt ≤ 1) ∧ ((0 : Int) ≤ (u.1 2).toInt ∧ (u.1 2).toInt ≤ 1200) ∧ ((0 : Int) ≤ (u.1 3).toInt ∧ (u.1 3).toInt ≤ 5) ∧ ((0 : Int) ≤ (u.1 4).toInt ∧ (u.1 4).toInt ≤ 1200) ∧ ((-1 : Int) ≤ (u.1 6).toInt ∧ (u.1 6).toInt ≤ 12) ∧ True) (fun u t => va_P (dC, dI) vwCl [(h0, .inr (5, [.ref r0_0, .int v0_1, .int (u.1 0), .int (u.1 1)])), (r0_0, .inr (10, [.ref r1_0, .ref r1_1, .int v1_2, .int (u.1 2), .int (u.1 3), .int (u.1 4), .int (u.1 5), .int (u.1 6)])), (r1_1, .inl (k2, 1200, .inl f2)), (r1_0, .inl (k3, 13, .inl f3))] t.heap ∧ va_K (dC, dI) vwCl [(k2, .byte), (k3, .int)] t ∧ va_D A [(h0, .inr (5, [.ref r0_0, .int v0_1, .int (u.1 0), .int (u.1 1)])), (r0_0, .inr (10, [.ref r1_0, .ref r1_1, .int v1_2, .int (u.1 2), .int (u.1 3), .int (u.1 4), .int (u.1 5), .int (u.1 6)])), (r1_1, .inl (k2, 1200, .inl f2)), (r1_0, .inl (k3, 13, .inl f3))]) A) ([.ref h0, .int p1] : List Value).toArray s 0 0 A = Q
  refine lv_aload_n hx hb dX5_readOwn_0 rfl (lv_at hl 0 rfl) ?_
  refine va_get (D := (dC, dI)) (ci := 5) (v := .ref r0_0) (C := RX5) (T := TX5) (N := 4) hx hb hts zn_X5_readOwn_X5 hown hK hP 0 rfl rfl 0 (by decide) (hts (.fieldLink RX5 12 "ShortEnough$Parser" "words" "LShortEnough$Words;") zw_X5_readOwn_295) (fun _ h9 => h9) rfl dX5_readOwn_1 ?_
  refine lv_iload_n hx hb dX5_readOwn_4 rfl (lv_at hl 1 rfl) ?_
  have hPc := hP.sub (ws' := [(r0_0, .inr (10, [.ref r1_0, .ref r1_1, .int v1_2, .int v1_3, .int v1_4, .int v1_5, .int v1_6, .int v1_7]))]) [1] rfl
  have hDc := hD.sub (ws' := [(r0_0, .inr (10, [.ref r1_0, .ref r1_1, .int v1_2, .int v1_3, .int v1_4, .int v1_5, .int v1_6, .int v1_7]))]) [1] (by decide) rfl
  have hKc := hK.sub (tys' := []) [] rfl
  have hFc := va_free (wc := [(r0_0, .inr (10, [.ref r1_0, .ref r1_1, .int v1_2, .int v1_3, .int v1_4, .int v1_5, .int v1_6, .int v1_7]))]) hD hS hA [1] rfl
  refine va_calli (va_runV (As := [.int p1]) (rest := []) ⟨hx, hb, hml, hown, hts⟩ (zs_X10_isOwn l dC dI r0_0 p1 r1_0 r1_1 v1_2 v1_3 v1_4 v1_5 v1_6 v1_7 (by omega) (by omega) (by omega) (by omega) (by omega) s.heap.size) (cwV 1 hts gX5_readOwn_X10_isOwn rfl rfl rfl (by decide +kernel) ⟨Nat.le_of_ble_eq_true rfl, Nat.le_of_ble_eq_true rfl⟩) ⟨fun a U g mk q => by obtain ⟨q0, q1, qP, qK, qD⟩ := q; exact ⟨q0, q1, qP, va_K.moved (u := U) (U := U.calling g mk a) (Vm.Alike.refl U.vm) qK, qD⟩, va_recv hKc hPc (ci := 10) (q0 := 0) rfl rfl, fun U hU hW => ⟨rfl, by rw [hU], by rw [hU]; exact hPc, va_K.moved hW.alike hKc, hDc.weaken (fun _ _ _ _ => trivial)⟩⟩ rfl rfl hl.1 rfl (lv_room (Nat.le_of_ble_eq_true rfl)) dX5_readOwn_5 ⟨Nat.le_of_ble_eq_true rfl, Nat.le_of_ble_eq_true rfl⟩) hS (fun q _ h => hFc q h) hFc (fun r_1 u_2 t H1 locs ht hvm hw_3 hB hz1 hk1 hS => ?_)
  obtain ⟨hP1, hK1, hD1⟩ := hB
  rw [ht] at hP1
  have hK1 := va_K.moved hvm.symm hK1
  obtain ⟨hP, hD⟩ := va_join (wr := [(h0, .inr (5, [.ref r0_0, .int v0_1, .int v0_2, .int v0_3])), (r1_1, .inl (k2, 1200, .inl f2)), (r1_0, .inl (k3, 13, .inl f3))]) (w1 := [(r0_0, .inr (10, [.ref r1_0, .ref r1_1, .int v1_2, .int v1_3, .int v1_4, .int v1_5, .int v1_6, .int v1_7]))]) hP hD [1] [0, 2, 3] rfl rfl (by decide) (by decide) hk1 hFc hP1 hD1
  have hK := hK
  generalize H1 = H at hP hS ⊢
  have hP := hP.sub (ws' := [(h0, .inr (5, [.ref r0_0, .int v0_1, .int v0_2, .int v0_3])), (r0_0, .inr (10, [.ref r1_0, .ref r1_1, .int v1_2, .int v1_3, .int v1_4, .int v1_5, .int v1_6, .int v1_7])), (r1_1, .inl (k2, 1200, .inl f2)), (r1_0, .inl (k3, 13, .inl f3))]) [0, 3, 1, 2] rfl
  have hD := hD.sub (ws' := [(h0, .inr (5, [.ref r0_0, .int v0_1, .int v0_2, .int v0_3])), (r0_0, .inr (10, [.ref r1_0, .ref r1_1, .int v1_2, .int v1_3, .int v1_4, .int v1_5, .int v1_6, .int v1_7])), (r1_1, .inl (k2, 1200, .inl f2)), (r1_0, .inl (k3, 13, .inl f3))]) [0, 3, 1, 2] (by decide) rfl
  have hP : va_P (dC, dI) vwCl [(h0, .inr (5, [.ref r0_0, .int v0_1, .int v0_2, .int v0_3])), (r0_0, .inr (10, [.ref r1_0, .ref r1_1, .int v1_2, .int v1_3, .int v1_4, .int v1_5, .int v1_6, .int v1_7])), (r1_1, .inl (k2, 1200, .inl f2)), (r1_0, .inl (k3, 13, .inl f3))] H := hP
  have hD : va_D A [(h0, .inr (5, [.ref r0_0, .int v0_1, .int v0_2, .int v0_3])), (r0_0, .inr (10, [.ref r1_0, .ref r1_1, .int v1_2, .int v1_3, .int v1_4, .int v1_5, .int v1_6, .int v1_7])), (r1_1, .inl (k2, 1200, .inl f2)), (r1_0, .inl (k3, 13, .inl f3))] := hD
  obtain ⟨hr_1, hir_1, -⟩ := hw_3
  refine lv_if_ne (tgt := 24) hx hb dX5_readOwn_8 (by decide) (fun c_4 => ?_) (fun c_4 => ?_)
  · have oc_4 := zk_ne rfl (by decide +kernel : (0 : Int32).toInt = 0) c_4
    refine lv_aload_n hx hb dX5_readOwn_24 rfl (lv_at hl 0 rfl) ?_
    refine va_get (D := (dC, dI)) (ci := 5) (v := .ref r0_0) (C := RX5) (T := TX5) (N := 4) hx hb hts zn_X5_readOwn_X5 hown hK hP 0 rfl rfl 0 (by decide) (hts (.fieldLink RX5 12 "ShortEnough$Parser" "words" "LShortEnough$Words;") zw_X5_readOwn_295) (fun _ h9 => h9) rfl dX5_readOwn_25 ?_
    have hPc := hP.sub (ws' := [(r0_0, .inr (10, [.ref r1_0, .ref r1_1, .int v1_2, .int v1_3, .int v1_4, .int v1_5, .int v1_6, .int v1_7])), (r1_1, .inl (k2, 1200, .inl f2)), (r1_0, .inl (k3, 13, .inl f3))]) [1, 2, 3] rfl
    have hDc := hD.sub (ws' := [(r0_0, .inr (10, [.ref r1_0, .ref r1_1, .int v1_2, .int v1_3, .int v1_4, .int v1_5, .int v1_6, .int v1_7])), (r1_1, .inl (k2, 1200, .inl f2)), (r1_0, .inl (k3, 13, .inl f3))]) [1, 2, 3] (by decide) rfl
    have hKc := hK.sub (tys' := [(k2, .byte), (k3, .int)]) [0, 1] rfl
    have hFc := va_free (wc := [(r0_0, .inr (10, [.ref r1_0, .ref r1_1, .int v1_2, .int v1_3, .int v1_4, .int v1_5, .int v1_6, .int v1_7])), (r1_1, .inl (k2, 1200, .inl f2)), (r1_0, .inl (k3, 13, .inl f3))]) hD hS hA [1, 2, 3] rfl
    refine va_callv (va_runV (As := []) (rest := []) ⟨hx, hb, hml, hown, hts⟩ (zs_X10_advance l dC dI r0_0 r1_0 r1_1 v1_2 v1_3 v1_4 v1_5 v1_6 v1_7 k2 f2 k3 f3 (by omega) (by omega) (by omega) (by omega) (by omega) H.size) (cwV 0 hts gX5_readOwn_X10_advance rfl rfl rfl (by decide +kernel) ⟨Nat.le_of_ble_eq_true rfl, Nat.le_of_ble_eq_true rfl⟩) ⟨fun a U g mk q => by obtain ⟨q0, q1, qP, qK, qD⟩ := q; exact ⟨q0, q1, qP, va_K.moved (u := U) (U := U.calling g mk a) (Vm.Alike.refl U.vm) qK, qD⟩, va_recv hKc hPc (ci := 10) (q0 := 0) rfl rfl, fun U hU hW => ⟨rfl, by rw [hU], by rw [hU]; exact hPc, va_K.moved hW.alike hKc, hDc.weaken (fun _ _ _ _ => trivial)⟩⟩ rfl rfl hl.1 rfl (lv_room (Nat.le_of_ble_eq_true rfl)) dX5_readOwn_28 ⟨Nat.le_of_ble_eq_true rfl, Nat.le_of_ble_eq_true rfl⟩) hS (fun q _ h => hFc q h) hFc (fun u_6 t H1 locs ht hvm hw_7 hB hz1 hk1 hS => ?_)
    obtain ⟨hP1, hK1, hD1⟩ := hB
    rw [ht] at hP1
    have hK1 := va_K.moved hvm.symm hK1
    obtain ⟨hP, hD⟩ := va_join (wr := [(h0, .inr (5, [.ref r0_0, .int v0_1, .int v0_2, .int v0_3]))]) (w1 := [(r0_0, .inr (10, [.ref r1_0, .ref r1_1, .int v1_2, .int (u_6.1 0), .int (u_6.1 1), .int (u_6.1 2), .int (u_6.1 3), .int (u_6.1 4)])), (r1_1, .inl (k2, 1200, .inl f2)), (r1_0, .inl (k3, 13, .inl f3))]) hP hD [1, 2, 3] [0] rfl rfl (by decide) (by decide) hk1 hFc hP1 hD1
    have hK := hK
    generalize H1 = H at hP hS ⊢
    have hP := hP.sub (ws' := [(h0, .inr (5, [.ref r0_0, .int v0_1, .int v0_2, .int v0_3])), (r0_0, .inr (10, [.ref r1_0, .ref r1_1, .int v1_2, .int (u_6.1 0), .int (u_6.1 1), .int (u_6.1 2), .int (u_6.1 3), .int (u_6.1 4)])), (r1_1, .inl (k2, 1200, .inl f2)), (r1_0, .inl (k3, 13, .inl f3))]) [0, 1, 2, 3] rfl
    have hD := hD.sub (ws' := [(h0, .inr (5, [.ref r0_0, .int v0_1, .int v0_2, .int v0_3])), (r0_0, .inr (10, [.ref r1_0, .ref r1_1, .int v1_2, .int (u_6.1 0), .int (u_6.1 1), .int (u_6.1 2), .int (u_6.1 3), .int (u_6.1 4)])), (r1_1, .inl (k2, 1200, .inl f2)), (r1_0, .inl (k3, 13, .inl f3))]) [0, 1, 2, 3] (by decide) rfl
    have hP : va_P (dC, dI) vwCl [(h0, .inr (5, [.ref r0_0, .int v0_1, .int v0_2, .int v0_3])), (r0_0, .inr (10, [.ref r1_0, .ref r1_1, .int v1_2, .int (u_6.1 0), .int (u_6.1 1), .int (u_6.1 2), .int (u_6.1 3), .int (u_6.1 4)])), (r1_1, .inl (k2, 1200, .inl f2)), (r1_0, .inl (k3, 13, .inl f3))] H := hP
    have hD : va_D A [(h0, .inr (5, [.ref r0_0, .int v0_1, .int v0_2, .int v0_3])), (r0_0, .inr (10, [.ref r1_0, .ref r1_1, .int v1_2, .int (u_6.1 0), .int (u_6.1 1), .int (u_6.1 2), .int (u_6.1 3), .int (u_6.1 4)])), (r1_1, .inl (k2, 1200, .inl f2)), (r1_0, .inl (k3, 13, .inl f3))] := hD
    obtain ⟨hmr_5_0, hmr_5_1, hmr_5_2, hmr_5_3, -⟩ := hw_7
    refine lv_iconst (v := 1) hx hb dX5_readOwn_31 (by decide +kernel) ?_
    have hP9 := hP.sub (ws' := [(h0, .inr (5, [.ref r0_0, .int v0_1, .int v0_2, .int v0_3])), (r0_0, .inr (10, [.ref r1_0, .ref r1_1, .int v1_2, .int (u_6.1 0), .int (u_6.1 1), .int (u_6.1 2), .int (u_6.1 3), .int (u_6.1 4)])), (r1_1, .inl (k2, 1200, .inl f2)), (r1_0, .inl (k3, 13, .inl f3))]) [0, 1, 2, 3] rfl
    have hD9 := hD.sub (ws' := [(h0, .inr (5, [.ref r0_0, .int v0_1, .int v0_2, .int v0_3])), (r0_0, .inr (10, [.ref r1_0, .ref r1_1, .int v1_2, .int (u_6.1 0), .int (u_6.1 1), .int (u_6.1 2), .int (u_6.1 3), .int (u_6.1 4)])), (r1_1, .inl (k2, 1200, .inl f2)), (r1_0, .inl (k3, 13, .inl f3))]) [0, 1, 2, 3] (by decide) rfl
    have hK9 := hK.sub (tys' := [(k2, .byte), (k3, .int)]) [0, 1] rfl
    rw [← hQ]
    exact W.zret (v := 1) hx hb hr rfl (fun t ht hW => ⟨⟨1, ((fun k => ([v0_2, v0_3, (u_6.1 0), (u_6.1 1), (u_6.1 2), (u_6.1 3), (u_6.1 4)] : List Int32).getD k 0), (fun k => ([] : List (Nat → Int32)).getD k (fun _ => 0)), (fun k => ([] : List (Nat → Int64)).getD k (fun _ => 0))), rfl, ⟨(show (0 : Int) ≤ (1 : Int32).toInt ∧ (1 : Int32).toInt ≤ 1 by decide +kernel), (show (0 : Int) ≤ ((u_6.1 0) : Int32).toInt ∧ ((u_6.1 0) : Int32).toInt ≤ 1200 by omega), (show (0 : Int) ≤ ((u_6.1 1) : Int32).toInt ∧ ((u_6.1 1) : Int32).toInt ≤ 5 by omega), (show (0 : Int) ≤ ((u_6.1 2) : Int32).toInt ∧ ((u_6.1 2) : Int32).toInt ≤ 1200 by omega), (show (-1 : Int) ≤ ((u_6.1 4) : Int32).toInt ∧ ((u_6.1 4) : Int32).toInt ≤ 12 by omega), trivial⟩, by rw [ht]; exact hP9, va_K.moved hW.alike hK9, hD9⟩, hS.F ht⟩) hS.2.2 dX5_readOwn_32
  have oc_4 := zk_eq rfl (by decide +kernel : (0 : Int32).toInt = 0) c_4
  refine lv_aload_n hx hb dX5_readOwn_11 rfl (lv_at hl 0 rfl) ?_
  refine lv_iconst (v := 1) hx hb dX5_readOwn_12 (by decide +kernel) ?_
  refine lv_aload_n hx hb dX5_readOwn_13 rfl (lv_at hl 0 rfl) ?_
  refine va_get (D := (dC, dI)) (ci := 5) (v := .ref r0_0) (C := RX5) (T := TX5) (N := 4) hx hb hts zn_X5_readOwn_X5 hown hK hP 0 rfl rfl 0 (by decide) (hts (.fieldLink RX5 12 "ShortEnough$Parser" "words" "LShortEnough$Words;") zw_X5_readOwn_295) (fun _ h9 => h9) rfl dX5_readOwn_14 ?_
  refine va_get (D := (dC, dI)) (ci := 10) (v := .int v1_5) (C := RX10) (T := TX10) (N := 8) hx hb hts zn_X5_readOwn_X10 hown hK hP 1 rfl rfl 5 (by decide) (hts (.fieldLink RX5 64 "ShortEnough$Words" "start" "I") zw_X5_readOwn_297) (fun _ h9 => h9) rfl dX5_readOwn_17 ?_
  have hPc := hP.sub (ws' := [(h0, .inr (5, [.ref r0_0, .int v0_1, .int v0_2, .int v0_3]))]) [0] rfl
  have hDc := hD.sub (ws' := [(h0, .inr (5, [.ref r0_0, .int v0_1, .int v0_2, .int v0_3]))]) [0] (by decide) rfl
  have hKc := hK.sub (tys' := []) [] rfl
  have hFc := va_free (wc := [(h0, .inr (5, [.ref r0_0, .int v0_1, .int v0_2, .int v0_3]))]) hD hS hA [0] rfl
  refine va_calli (va_runV (As := [.int 1, .int v1_5]) (rest := []) ⟨hx, hb, hml, hown, hts⟩ (zs_X5_stopAt l dC dI h0 1 v1_5 r0_0 v0_1 v0_2 v0_3  H.size) (cwV 2 hts gX5_readOwn_X5_stopAt rfl rfl rfl (by decide +kernel) ⟨Nat.le_of_ble_eq_true rfl, Nat.le_of_ble_eq_true rfl⟩) ⟨fun a U g mk q => by obtain ⟨q0, q1, qP, qK, qD⟩ := q; exact ⟨q0, q1, qP, va_K.moved (u := U) (U := U.calling g mk a) (Vm.Alike.refl U.vm) qK, qD⟩, va_recv hKc hPc (ci := 5) (q0 := 0) rfl rfl, fun U hU hW => ⟨rfl, by rw [hU], by rw [hU]; exact hPc, va_K.moved hW.alike hKc, hDc.weaken (fun _ _ _ _ => trivial)⟩⟩ rfl rfl hl.1 rfl (lv_room (Nat.le_of_ble_eq_true rfl)) dX5_readOwn_20 ⟨Nat.le_of_ble_eq_true rfl, Nat.le_of_ble_eq_true rfl⟩) hS (fun q _ h => hFc q h) hFc (fun r_8 u_9 t H1 locs ht hvm hw_10 hB hz1 hk1 hS => ?_)
  obtain ⟨hP1, hK1, hD1⟩ := hB
  rw [ht] at hP1
  have hK1 := va_K.moved hvm.symm hK1
  obtain ⟨hP, hD⟩ := va_join (wr := [(r0_0, .inr (10, [.ref r1_0, .ref r1_1, .int v1_2, .int v1_3, .int v1_4, .int v1_5, .int v1_6, .int v1_7])), (r1_1, .inl (k2, 1200, .inl f2)), (r1_0, .inl (k3, 13, .inl f3))]) (w1 := [(h0, .inr (5, [.ref r0_0, .int v0_1, .int (u_9.1 0), .int (u_9.1 1)]))]) hP hD [0] [1, 2, 3] rfl rfl (by decide) (by decide) hk1 hFc hP1 hD1
  have hK := hK
  generalize H1 = H at hP hS ⊢
  have hP := hP.sub (ws' := [(h0, .inr (5, [.ref r0_0, .int v0_1, .int (u_9.1 0), .int (u_9.1 1)])), (r0_0, .inr (10, [.ref r1_0, .ref r1_1, .int v1_2, .int v1_3, .int v1_4, .int v1_5, .int v1_6, .int v1_7])), (r1_1, .inl (k2, 1200, .inl f2)), (r1_0, .inl (k3, 13, .inl f3))]) [3, 0, 1, 2] rfl
  have hD := hD.sub (ws' := [(h0, .inr (5, [.ref r0_0, .int v0_1, .int (u_9.1 0), .int (u_9.1 1)])), (r0_0, .inr (10, [.ref r1_0, .ref r1_1, .int v1_2, .int v1_3, .int v1_4, .int v1_5, .int v1_6, .int v1_7])), (r1_1, .inl (k2, 1200, .inl f2)), (r1_0, .inl (k3, 13, .inl f3))]) [3, 0, 1, 2] (by decide) rfl
  have hP : va_P (dC, dI) vwCl [(h0, .inr (5, [.ref r0_0, .int v0_1, .int (u_9.1 0), .int (u_9.1 1)])), (r0_0, .inr (10, [.ref r1_0, .ref r1_1, .int v1_2, .int v1_3, .int v1_4, .int v1_5, .int v1_6, .int v1_7])), (r1_1, .inl (k2, 1200, .inl f2)), (r1_0, .inl (k3, 13, .inl f3))] H := hP
  have hD : va_D A [(h0, .inr (5, [.ref r0_0, .int v0_1, .int (u_9.1 0), .int (u_9.1 1)])), (r0_0, .inr (10, [.ref r1_0, .ref r1_1, .int v1_2, .int v1_3, .int v1_4, .int v1_5, .int v1_6, .int v1_7])), (r1_1, .inl (k2, 1200, .inl f2)), (r1_0, .inl (k3, 13, .inl f3))] := hD
  obtain ⟨hr_8, -⟩ := hw_10
  have hP9 := hP.sub (ws' := [(h0, .inr (5, [.ref r0_0, .int v0_1, .int (u_9.1 0), .int (u_9.1 1)])), (r0_0, .inr (10, [.ref r1_0, .ref r1_1, .int v1_2, .int v1_3, .int v1_4, .int v1_5, .int v1_6, .int v1_7])), (r1_1, .inl (k2, 1200, .inl f2)), (r1_0, .inl (k3, 13, .inl f3))]) [0, 1, 2, 3] rfl
  have hD9 := hD.sub (ws' := [(h0, .inr (5, [.ref r0_0, .int v0_1, .int (u_9.1 0), .int (u_9.1 1)])), (r0_0, .inr (10, [.ref r1_0, .ref r1_1, .int v1_2, .int v1_3, .int v1_4, .int v1_5, .int v1_6, .int v1_7])), (r1_1, .inl (k2, 1200, .inl f2)), (r1_0, .inl (k3, 13, .inl f3))]) [0, 1, 2, 3] (by decide) rfl
  have hK9 := hK.sub (tys' := [(k2, .byte), (k3, .int)]) [0, 1] rfl
  rw [← hQ]
  exact W.zret (v := r_8) hx hb hr (zn_b (by omega)) (fun t ht hW => ⟨⟨r_8, ((fun k => ([(u_9.1 0), (u_9.1 1), v1_3, v1_4, v1_5, v1_6, v1_7] : List Int32).getD k 0), (fun k => ([] : List (Nat → Int32)).getD k (fun _ => 0)), (fun k => ([] : List (Nat → Int64)).getD k (fun _ => 0))), rfl, ⟨(show (0 : Int) ≤ (r_8 : Int32).toInt ∧ (r_8 : Int32).toInt ≤ 1 by omega), (show (0 : Int) ≤ (v1_3 : Int32).toInt ∧ (v1_3 : Int32).toInt ≤ 1200 by omega), (show (0 : Int) ≤ (v1_4 : Int32).toInt ∧ (v1_4 : Int32).toInt ≤ 5 by omega), (show (0 : Int) ≤ (v1_5 : Int32).toInt ∧ (v1_5 : Int32).toInt ≤ 1200 by omega), (show (-1 : Int) ≤ (v1_7 : Int32).toInt ∧ (v1_7 : Int32).toInt ≤ 12 by omega), trivial⟩, by rw [ht]; exact hP9, va_K.moved hW.alike hK9, hD9⟩, hS.F ht⟩) hS.2.2 dX5_readOwn_23
set_option maxHeartbeats 4000000 in
set_option maxRecDepth 100000 in
theorem zs_X5_readValue (l : Launch) (dC : Nat → ClassId) (dI : Nat → Nat → Nat) (h0 : Nat) (p1 : Int32) (p2 : Int32) (p3 : Int32) (r0_0 : Nat) (v0_1 : Int32) (v0_2 : Int32) (v0_3 : Int32) (r1_0 : Nat) (r1_1 : Nat) (v1_2 : Int32) (v1_3 : Int32) (v1_4 : Int32) (v1_5 : Int32) (v1_6 : Int32) (v1_7 : Int32) (k2 : Nat) (f2 : Nat → Int32) (k3 : Nat) (f3 : Nat → Int32) (hq_p1 : (0 : Int) ≤ p1.toInt ∧ p1.toInt ≤ 1) (hq_v1_2 : (0 : Int) ≤ v1_2.toInt ∧ v1_2.toInt ≤ 1200) (hq_v1_3 : (0 : Int) ≤ v1_3.toInt ∧ v1_3.toInt ≤ 1200) (hq_v1_4 : (0 : Int) ≤ v1_4.toInt ∧ v1_4.toInt ≤ 5) (hq_v1_5 : (0 : Int) ≤ v1_5.toInt ∧ v1_5.toInt ≤ 1200) (hq_v1_7 : (-1 : Int) ≤ v1_7.toInt ∧ v1_7.toInt ≤ 12) (sz : Nat) : Met l yX5_readValue wsX5_readValue ({ frames := 2, cells := 0, slots := 0, locals := 46 }) (va_Pc [.ref h0, .int p1, .int p2, .int p3] (fun U => U.heap.size = sz ∧ va_P (dC, dI) vwCl [(h0, .inr (5, [.ref r0_0, .int v0_1, .int v0_2, .int v0_3])), (r0_0, .inr (10, [.ref r1_0, .ref r1_1, .int v1_2, .int v1_3, .int v1_4, .int v1_5, .int v1_6, .int v1_7])), (r1_1, .inl (k2, 1200, .inl f2)), (r1_0, .inl (k3, 13, .inl f3))] U.heap ∧ va_K (dC, dI) vwCl [(k2, .byte), (k3, .int)] U ∧ va_D (fun _ => True) [(h0, .inr (5, [.ref r0_0, .int v0_1, .int v0_2, .int v0_3])), (r0_0, .inr (10, [.ref r1_0, .ref r1_1, .int v1_2, .int v1_3, .int v1_4, .int v1_5, .int v1_6, .int v1_7])), (r1_1, .inl (k2, 1200, .inl f2)), (r1_0, .inl (k3, 13, .inl f3))])) (va_Qi (fun (r : Int32) (u : zV) => ((0 : Int) ≤ r.toInt ∧ r.toInt ≤ 1) ∧ ((0 : Int) ≤ (u.1 3).toInt ∧ (u.1 3).toInt ≤ 1200) ∧ ((0 : Int) ≤ (u.1 4).toInt ∧ (u.1 4).toInt ≤ 5) ∧ ((0 : Int) ≤ (u.1 5).toInt ∧ (u.1 5).toInt ≤ 1200) ∧ ((-1 : Int) ≤ (u.1 7).toInt ∧ (u.1 7).toInt ≤ 12) ∧ True) (fun u t => va_P (dC, dI) vwCl [(h0, .inr (5, [.ref r0_0, .int (u.1 0), .int (u.1 1), .int (u.1 2)])), (r0_0, .inr (10, [.ref r1_0, .ref r1_1, .int v1_2, .int (u.1 3), .int (u.1 4), .int (u.1 5), .int (u.1 6), .int (u.1 7)])), (r1_1, .inl (k2, 1200, .inl f2)), (r1_0, .inl (k3, 13, .inl f3))] t.heap ∧ va_K (dC, dI) vwCl [(k2, .byte), (k3, .int)] t ∧ va_D (va_A [(h0, .inr (5, [.ref r0_0, .int v0_1, .int v0_2, .int v0_3])), (r0_0, .inr (10, [.ref r1_0, .ref r1_1, .int v1_2, .int v1_3, .int v1_4, .int v1_5, .int v1_6, .int v1_7])), (r1_1, .inl (k2, 1200, .inl f2)), (r1_0, .inl (k3, 13, .inl f3))] sz) [(h0, .inr (5, [.ref r0_0, .int (u.1 0), .int (u.1 1), .int (u.1 2)])), (r0_0, .inr (10, [.ref r1_0, .ref r1_1, .int v1_2, .int (u.1 3), .int (u.1 4), .int (u.1 5), .int (u.1 6), .int (u.1 7)])), (r1_1, .inl (k2, 1200, .inl f2)), (r1_0, .inl (k3, 13, .inl f3))]) (va_A [(h0, .inr (5, [.ref r0_0, .int v0_1, .int v0_2, .int v0_3])), (r0_0, .inr (10, [.ref r1_0, .ref r1_1, .int v1_2, .int v1_3, .int v1_4, .int v1_5, .int v1_6, .int v1_7])), (r1_1, .inl (k2, 1200, .inl f2)), (r1_0, .inl (k3, 13, .inl f3))] sz)) 0 0 (va_A [(h0, .inr (5, [.ref r0_0, .int v0_1, .int v0_2, .int v0_3])), (r0_0, .inr (10, [.ref r1_0, .ref r1_1, .int v1_2, .int v1_3, .int v1_4, .int v1_5, .int v1_6, .int v1_7])), (r1_1, .inl (k2, 1200, .inl f2)), (r1_0, .inl (k3, 13, .inl f3))] sz) := by
  refine Met.ofW (cc := cX5_readValue) (maxL := 7) (ret := (some .boolean)) (by decide +kernel) rfl ?_
  intro p e s m args below meth c s₁ B hml hv
  obtain ⟨rfl, hsz, hP, hK, hD0⟩ := hv
  have hx := B.exec
  have hb := B.bytes
  have hr := B.returns
  have hts := atoms_spec (ws := wsX5_readValue) B.pre
  have hown : s.vm.findClass RX5 = some m.cls := findClass_of_methodNamed B.named
  have hlocks := B.notSynchronized
  subst hsz
  have hD := hD0.self (sz := s.heap.size)
  generalize hAe : va_A [(h0, .inr (5, [.ref r0_0, .int v0_1, .int v0_2, .int v0_3])), (r0_0, .inr (10, [.ref r1_0, .ref r1_1, .int v1_2, .int v1_3, .int v1_4, .int v1_5, .int v1_6, .int v1_7])), (r1_1, .inl (k2, 1200, .inl f2)), (r1_0, .inl (k3, 13, .inl f3))] s.heap.size = A at hD ⊢
  have hA : ∀ q : Nat, s.heap.size ≤ q → A q := fun q h => by rw [← hAe]; exact Or.inr h
  have hS : va_S A s.heap s.heap [] := va_S.rf
  have hP : va_P (dC, dI) vwCl [(h0, .inr (5, [.ref r0_0, .int v0_1, .int v0_2, .int v0_3])), (r0_0, .inr (10, [.ref r1_0, .ref r1_1, .int v1_2, .int v1_3, .int v1_4, .int v1_5, .int v1_6, .int v1_7])), (r1_1, .inl (k2, 1200, .inl f2)), (r1_0, .inl (k3, 13, .inl f3))] s.heap := hP
  have hl := lv_entry ([.ref h0, .int p1, .int p2, .int p3]) (n := 7) (Nat.le_of_ble_eq_true rfl)
  rw [lg_entry_eq]
  generalize (lg_sl ([.ref h0, .int p1, .int p2, .int p3]) ++ List.replicate (7 - (lg_sl ([.ref h0, .int p1, .int p2, .int p3])).length) Slot.unset).toArray = ls at hl ⊢
  have hl : lv_has ls 7 [(0, .ref h0), (1, .int p1), (2, .int p2), (3, .int p3)] := hl
  generalize hQ : MQ below (va_Qi (fun (r : Int32) (u : zV) => ((0 : Int) ≤ r.toInt ∧ r.toInt ≤ 1) ∧ ((0 : Int) ≤ (u.1 3).toInt ∧ (u.1 3).toInt ≤ 1200) ∧ ((0 : Int) ≤ (u.1 4).toInt ∧ (u.1 4).toInt ≤ 5) ∧ ((0 : Int) ≤ (u.1 5).toInt ∧ (u.1 5).toInt ≤ 1200) ∧ ((-1 : Int) ≤ (u.1 7).toInt ∧ (u.1 7).toInt ≤ 12) ∧ True) (fun u t => va_P (dC, dI) vwCl [(h0, .inr (5, [.ref r0_0, .int (u.1 0), .int (u.1 1), .int (u.1 2)])), (r0_0, .inr (10, [.ref r1_0, .ref r1_1, .int v1_2, .int (u.1 3), .int (u.1 4), .int (u.1 5), .int (u.1 6), .int (u.1 7)])), (r1_1, .inl (k2, 1200, .inl f2)), (r1_0, .inl (k3, 13, .inl f3))] t.heap ∧ va_K (dC, dI) vwCl [(k2, .byte), (k3, .int)] t ∧ va_D A [(h0, .inr (5, [.ref r0_0, .int (u.1 0), .int (u.1 1), .int (u.1 2)])), (r0_0, .inr (10, [.ref r1_0, .ref r1_1, .int v1_2, .int (u.1 3), .int (u.1 4), .int (u.1 5), .int (u.1 6), .int (u.1 7)])), (r1_1, .inl (k2, 1200, .inl f2)), (r1_0, .inl (k3, 13, .inl f3))]) A) ([.ref h0, .int p1, .int p2, .int p3] : List Value).toArray s 0 0 A = Q
  refine lv_aload_n hx hb dX5_readValue_0 rfl (lv_at hl 0 rfl) ?_
  refine va_get (D := (dC, dI)) (ci := 5) (v := .ref r0_0) (C := RX5) (T := TX5) (N := 4) hx hb hts zn_X5_readValue_X5 hown hK hP 0 rfl rfl 0 (by decide) (hts (.fieldLink RX5 12 "ShortEnough$Parser" "words" "LShortEnough$Words;") zw_X5_readValue_299) (fun _ h9 => h9) rfl dX5_readValue_1 ?_
  refine va_get (D := (dC, dI)) (ci := 10) (v := .int v1_5) (C := RX10) (T := TX10) (N := 8) hx hb hts zn_X5_readValue_X10 hown hK hP 1 rfl rfl 5 (by decide) (hts (.fieldLink RX5 64 "ShortEnough$Words" "start" "I") zw_X5_readValue_301) (fun _ h9 => h9) rfl dX5_readValue_4 ?_
  refine lv_istore (lv' := [(4, .int v1_5), (0, .ref h0), (1, .int p1), (2, .int p2), (3, .int p3)]) hx hb dX5_readValue_7 hl (by decide) rfl (fun ls hl => ?_)
  refine lv_iload_n hx hb dX5_readValue_9 rfl (lv_at hl 2 rfl) ?_
  have jp29_1 : ∀  (H : Heap) (locs : List Loc) (ls : Array Slot), va_P (dC, dI) vwCl [(h0, .inr (5, [.ref r0_0, .int v0_1, .int v0_2, .int v0_3])), (r0_0, .inr (10, [.ref r1_0, .ref r1_1, .int v1_2, .int v1_3, .int v1_4, .int v1_5, .int v1_6, .int v1_7])), (r1_1, .inl (k2, 1200, .inl f2)), (r1_0, .inl (k3, 13, .inl f3))] H → va_D A [(h0, .inr (5, [.ref r0_0, .int v0_1, .int v0_2, .int v0_3])), (r0_0, .inr (10, [.ref r1_0, .ref r1_1, .int v1_2, .int v1_3, .int v1_4, .int v1_5, .int v1_6, .int v1_7])), (r1_1, .inl (k2, 1200, .inl f2)), (r1_0, .inl (k3, 13, .inl f3))] → va_S A s.heap H locs → lv_has ls 7 [(4, .int v1_5), (0, .ref h0), (1, .int p1), (2, .int p2), (3, .int p3)] → W p l e (headSpec wsX5_readValue ({ frames := 2, cells := 0, slots := 0, locals := 46 })).room s m ([.ref h0, .int p1, .int p2, .int p3] : List Value).toArray below meth c H locs 0 0 Q (F0 m 29 ls []) := by
    intro H locs ls  hP hD hS hl
    refine lv_iconst (v := 0) hx hb dX5_readValue_29 (by decide +kernel) ?_
    refine lv_istore (lv' := [(5, .int 0), (4, .int v1_5), (0, .ref h0), (1, .int p1), (2, .int p2), (3, .int p3)]) hx hb dX5_readValue_30 hl (by decide) rfl (fun ls hl => ?_)
    refine lv_iload hx hb dX5_readValue_32 (lv_at hl 0 rfl) ?_
    refine lv_if_eq (tgt := 44) hx hb dX5_readValue_34 (by decide) (fun c_1 => ?_) (fun c_1 => by exfalso; have oc_1 := zk_ne (by decide +kernel : (0 : Int32).toInt = 0) (by decide +kernel : (0 : Int32).toInt = 0) c_1; omega)
    have oc_1 := zk_eq (by decide +kernel : (0 : Int32).toInt = 0) (by decide +kernel : (0 : Int32).toInt = 0) c_1
    refine lv_aload_n hx hb dX5_readValue_44 rfl (lv_at hl 2 rfl) ?_
    refine va_get (D := (dC, dI)) (ci := 5) (v := .ref r0_0) (C := RX5) (T := TX5) (N := 4) hx hb hts zn_X5_readValue_X5 hown hK hP 0 rfl rfl 0 (by decide) (hts (.fieldLink RX5 12 "ShortEnough$Parser" "words" "LShortEnough$Words;") zw_X5_readValue_299) (fun _ h9 => h9) rfl dX5_readValue_45 ?_
    refine va_get (D := (dC, dI)) (ci := 10) (v := .int v1_4) (C := RX10) (T := TX10) (N := 8) hx hb hts zn_X5_readValue_X10 hown hK hP 1 rfl rfl 4 (by decide) (hts (.fieldLink RX5 34 "ShortEnough$Words" "kind" "I") zw_X5_readValue_302) (fun _ h9 => h9) rfl dX5_readValue_48 ?_
    refine lv_iconst (v := 2) hx hb dX5_readValue_51 (by decide +kernel) ?_
    refine lv_icmp_eq (tgt := 68) hx hb dX5_readValue_52 (by decide) (fun c_2 => ?_) (fun c_2 => ?_)
    · have oc_2 := zk_eq rfl (by decide +kernel : (2 : Int32).toInt = 2) c_2
      refine lv_iload hx hb dX5_readValue_68 (lv_at hl 0 rfl) ?_
      refine lv_if_eq (tgt := 84) hx hb dX5_readValue_70 (by decide) (fun c_3 => ?_) (fun c_3 => by exfalso; have oc_3 := zk_ne (by decide +kernel : (0 : Int32).toInt = 0) (by decide +kernel : (0 : Int32).toInt = 0) c_3; omega)
      have oc_3 := zk_eq (by decide +kernel : (0 : Int32).toInt = 0) (by decide +kernel : (0 : Int32).toInt = 0) c_3
      refine lv_aload_n hx hb dX5_readValue_84 rfl (lv_at hl 2 rfl) ?_
      refine va_get (D := (dC, dI)) (ci := 5) (v := .ref r0_0) (C := RX5) (T := TX5) (N := 4) hx hb hts zn_X5_readValue_X5 hown hK hP 0 rfl rfl 0 (by decide) (hts (.fieldLink RX5 12 "ShortEnough$Parser" "words" "LShortEnough$Words;") zw_X5_readValue_299) (fun _ h9 => h9) rfl dX5_readValue_85 ?_
      refine va_get (D := (dC, dI)) (ci := 10) (v := .int v1_6) (C := RX10) (T := TX10) (N := 8) hx hb hts zn_X5_readValue_X10 hown hK hP 1 rfl rfl 6 (by decide) (hts (.fieldLink RX5 138 "ShortEnough$Words" "value" "I") zw_X5_readValue_303) (fun _ h9 => h9) rfl dX5_readValue_88 ?_
      refine lv_istore (lv' := [(6, .int v1_6), (5, .int 0), (4, .int v1_5), (0, .ref h0), (1, .int p1), (2, .int p2), (3, .int p3)]) hx hb dX5_readValue_91 hl (by decide) rfl (fun ls hl => ?_)
      refine lv_iload hx hb dX5_readValue_93 (lv_at hl 0 rfl) ?_
      refine lv_iload_n hx hb dX5_readValue_95 rfl (lv_at hl 5 rfl) ?_
      refine lv_icmp_lt (tgt := 105) hx hb dX5_readValue_96 (by decide) (fun c_4 => ?_) (fun c_4 => ?_)
      · have oc_4 := zk_lt rfl rfl c_4
        refine lv_aload_n hx hb dX5_readValue_105 rfl (lv_at hl 3 rfl) ?_
        refine lv_iconst (v := 2) hx hb dX5_readValue_106 (by decide +kernel) ?_
        refine lv_iload hx hb dX5_readValue_107 (lv_at hl 2 rfl) ?_
        have hPc := hP.sub (ws' := [(h0, .inr (5, [.ref r0_0, .int v0_1, .int v0_2, .int v0_3]))]) [0] rfl
        have hDc := hD.sub (ws' := [(h0, .inr (5, [.ref r0_0, .int v0_1, .int v0_2, .int v0_3]))]) [0] (by decide) rfl
        have hKc := hK.sub (tys' := []) [] rfl
        have hFc := va_free (wc := [(h0, .inr (5, [.ref r0_0, .int v0_1, .int v0_2, .int v0_3]))]) hD hS hA [0] rfl
        refine va_calli (va_runV (As := [.int 2, .int v1_5]) (rest := []) ⟨hx, hb, hml, hown, hts⟩ (zs_X5_stopAt l dC dI h0 2 v1_5 r0_0 v0_1 v0_2 v0_3  H.size) (cwV 2 hts gX5_readValue_X5_stopAt rfl rfl rfl (by decide +kernel) ⟨Nat.le_of_ble_eq_true rfl, Nat.le_of_ble_eq_true rfl⟩) ⟨fun a U g mk q => by obtain ⟨q0, q1, qP, qK, qD⟩ := q; exact ⟨q0, q1, qP, va_K.moved (u := U) (U := U.calling g mk a) (Vm.Alike.refl U.vm) qK, qD⟩, va_recv hKc hPc (ci := 5) (q0 := 0) rfl rfl, fun U hU hW => ⟨rfl, by rw [hU], by rw [hU]; exact hPc, va_K.moved hW.alike hKc, hDc.weaken (fun _ _ _ _ => trivial)⟩⟩ rfl rfl hl.1 rfl (lv_room (Nat.le_of_ble_eq_true rfl)) dX5_readValue_109 ⟨Nat.le_of_ble_eq_true rfl, Nat.le_of_ble_eq_true rfl⟩) hS (fun q _ h => hFc q h) hFc (fun r_5 u_6 t H1 locs ht hvm hw_7 hB hz1 hk1 hS => ?_)
        obtain ⟨hP1, hK1, hD1⟩ := hB
        rw [ht] at hP1
        have hK1 := va_K.moved hvm.symm hK1
        obtain ⟨hP, hD⟩ := va_join (wr := [(r0_0, .inr (10, [.ref r1_0, .ref r1_1, .int v1_2, .int v1_3, .int v1_4, .int v1_5, .int v1_6, .int v1_7])), (r1_1, .inl (k2, 1200, .inl f2)), (r1_0, .inl (k3, 13, .inl f3))]) (w1 := [(h0, .inr (5, [.ref r0_0, .int v0_1, .int (u_6.1 0), .int (u_6.1 1)]))]) hP hD [0] [1, 2, 3] rfl rfl (by decide) (by decide) hk1 hFc hP1 hD1
        have hK := hK
        generalize H1 = H at hP hS ⊢
        have hP := hP.sub (ws' := [(h0, .inr (5, [.ref r0_0, .int v0_1, .int (u_6.1 0), .int (u_6.1 1)])), (r0_0, .inr (10, [.ref r1_0, .ref r1_1, .int v1_2, .int v1_3, .int v1_4, .int v1_5, .int v1_6, .int v1_7])), (r1_1, .inl (k2, 1200, .inl f2)), (r1_0, .inl (k3, 13, .inl f3))]) [3, 0, 1, 2] rfl
        have hD := hD.sub (ws' := [(h0, .inr (5, [.ref r0_0, .int v0_1, .int (u_6.1 0), .int (u_6.1 1)])), (r0_0, .inr (10, [.ref r1_0, .ref r1_1, .int v1_2, .int v1_3, .int v1_4, .int v1_5, .int v1_6, .int v1_7])), (r1_1, .inl (k2, 1200, .inl f2)), (r1_0, .inl (k3, 13, .inl f3))]) [3, 0, 1, 2] (by decide) rfl
        have hP : va_P (dC, dI) vwCl [(h0, .inr (5, [.ref r0_0, .int v0_1, .int (u_6.1 0), .int (u_6.1 1)])), (r0_0, .inr (10, [.ref r1_0, .ref r1_1, .int v1_2, .int v1_3, .int v1_4, .int v1_5, .int v1_6, .int v1_7])), (r1_1, .inl (k2, 1200, .inl f2)), (r1_0, .inl (k3, 13, .inl f3))] H := hP
        have hD : va_D A [(h0, .inr (5, [.ref r0_0, .int v0_1, .int (u_6.1 0), .int (u_6.1 1)])), (r0_0, .inr (10, [.ref r1_0, .ref r1_1, .int v1_2, .int v1_3, .int v1_4, .int v1_5, .int v1_6, .int v1_7])), (r1_1, .inl (k2, 1200, .inl f2)), (r1_0, .inl (k3, 13, .inl f3))] := hD
        obtain ⟨hr_5, -⟩ := hw_7
        have hP9 := hP.sub (ws' := [(h0, .inr (5, [.ref r0_0, .int v0_1, .int (u_6.1 0), .int (u_6.1 1)])), (r0_0, .inr (10, [.ref r1_0, .ref r1_1, .int v1_2, .int v1_3, .int v1_4, .int v1_5, .int v1_6, .int v1_7])), (r1_1, .inl (k2, 1200, .inl f2)), (r1_0, .inl (k3, 13, .inl f3))]) [0, 1, 2, 3] rfl
        have hD9 := hD.sub (ws' := [(h0, .inr (5, [.ref r0_0, .int v0_1, .int (u_6.1 0), .int (u_6.1 1)])), (r0_0, .inr (10, [.ref r1_0, .ref r1_1, .int v1_2, .int v1_3, .int v1_4, .int v1_5, .int v1_6, .int v1_7])), (r1_1, .inl (k2, 1200, .inl f2)), (r1_0, .inl (k3, 13, .inl f3))]) [0, 1, 2, 3] (by decide) rfl
        have hK9 := hK.sub (tys' := [(k2, .byte), (k3, .int)]) [0, 1] rfl
        rw [← hQ]
        exact W.zret (v := r_5) hx hb hr (zn_b (by omega)) (fun t ht hW => ⟨⟨r_5, ((fun k => ([v0_1, (u_6.1 0), (u_6.1 1), v1_3, v1_4, v1_5, v1_6, v1_7] : List Int32).getD k 0), (fun k => ([] : List (Nat → Int32)).getD k (fun _ => 0)), (fun k => ([] : List (Nat → Int64)).getD k (fun _ => 0))), rfl, ⟨(show (0 : Int) ≤ (r_5 : Int32).toInt ∧ (r_5 : Int32).toInt ≤ 1 by omega), (show (0 : Int) ≤ (v1_3 : Int32).toInt ∧ (v1_3 : Int32).toInt ≤ 1200 by omega), (show (0 : Int) ≤ (v1_4 : Int32).toInt ∧ (v1_4 : Int32).toInt ≤ 5 by omega), (show (0 : Int) ≤ (v1_5 : Int32).toInt ∧ (v1_5 : Int32).toInt ≤ 1200 by omega), (show (-1 : Int) ≤ (v1_7 : Int32).toInt ∧ (v1_7 : Int32).toInt ≤ 12 by omega), trivial⟩, by rw [ht]; exact hP9, va_K.moved hW.alike hK9, hD9⟩, hS.F ht⟩) hS.2.2 dX5_readValue_112
      have oc_4 := zk_nlt rfl rfl c_4
      refine lv_iload hx hb dX5_readValue_99 (lv_at hl 0 rfl) ?_
      refine lv_iload_n hx hb dX5_readValue_101 rfl (lv_at hl 6 rfl) ?_
      refine lv_icmp_le (tgt := 113) hx hb dX5_readValue_102 (by decide) (fun c_8 => ?_) (fun c_8 => ?_)
      · have oc_8 := zk_le rfl rfl c_8
        refine lv_aload_n hx hb dX5_readValue_113 rfl (lv_at hl 3 rfl) ?_
        refine lv_iload hx hb dX5_readValue_114 (lv_at hl 0 rfl) ?_
        refine va_put (D := (dC, dI)) (ci := 5) (v := .int v1_6) (ty := .int) (C := RX5) (T := TX5) (N := 4) hx hb hts zn_X5_readValue_X5 tyX5 tyX5_ok nmX5 hown hK hP hD hS 0 rfl rfl 1 (by decide) (hts (.fieldLink RX5 102 "ShortEnough$Parser" "got" "I") zw_X5_readValue_304) (fun _ h9 => h9) rfl (by decide +kernel) rfl rfl (Nat.le_of_ble_eq_true rfl) dX5_readValue_116 (fun H locs hP hD hS => ?_)
        have hP : va_P (dC, dI) vwCl [(h0, .inr (5, [.ref r0_0, .int v1_6, .int v0_2, .int v0_3])), (r0_0, .inr (10, [.ref r1_0, .ref r1_1, .int v1_2, .int v1_3, .int v1_4, .int v1_5, .int v1_6, .int v1_7])), (r1_1, .inl (k2, 1200, .inl f2)), (r1_0, .inl (k3, 13, .inl f3))] H := hP
        have hD : va_D A [(h0, .inr (5, [.ref r0_0, .int v1_6, .int v0_2, .int v0_3])), (r0_0, .inr (10, [.ref r1_0, .ref r1_1, .int v1_2, .int v1_3, .int v1_4, .int v1_5, .int v1_6, .int v1_7])), (r1_1, .inl (k2, 1200, .inl f2)), (r1_0, .inl (k3, 13, .inl f3))] := hD
        refine lv_aload_n hx hb dX5_readValue_119 rfl (lv_at hl 3 rfl) ?_
        refine va_get (D := (dC, dI)) (ci := 5) (v := .ref r0_0) (C := RX5) (T := TX5) (N := 4) hx hb hts zn_X5_readValue_X5 hown hK hP 0 rfl rfl 0 (by decide) (hts (.fieldLink RX5 12 "ShortEnough$Parser" "words" "LShortEnough$Words;") zw_X5_readValue_299) (fun _ h9 => h9) rfl dX5_readValue_120 ?_
        have hPc := hP.sub (ws' := [(r0_0, .inr (10, [.ref r1_0, .ref r1_1, .int v1_2, .int v1_3, .int v1_4, .int v1_5, .int v1_6, .int v1_7])), (r1_1, .inl (k2, 1200, .inl f2)), (r1_0, .inl (k3, 13, .inl f3))]) [1, 2, 3] rfl
        have hDc := hD.sub (ws' := [(r0_0, .inr (10, [.ref r1_0, .ref r1_1, .int v1_2, .int v1_3, .int v1_4, .int v1_5, .int v1_6, .int v1_7])), (r1_1, .inl (k2, 1200, .inl f2)), (r1_0, .inl (k3, 13, .inl f3))]) [1, 2, 3] (by decide) rfl
        have hKc := hK.sub (tys' := [(k2, .byte), (k3, .int)]) [0, 1] rfl
        have hFc := va_free (wc := [(r0_0, .inr (10, [.ref r1_0, .ref r1_1, .int v1_2, .int v1_3, .int v1_4, .int v1_5, .int v1_6, .int v1_7])), (r1_1, .inl (k2, 1200, .inl f2)), (r1_0, .inl (k3, 13, .inl f3))]) hD hS hA [1, 2, 3] rfl
        refine va_callv (va_runV (As := []) (rest := []) ⟨hx, hb, hml, hown, hts⟩ (zs_X10_advance l dC dI r0_0 r1_0 r1_1 v1_2 v1_3 v1_4 v1_5 v1_6 v1_7 k2 f2 k3 f3 (by omega) (by omega) (by omega) (by omega) (by omega) H.size) (cwV 0 hts gX5_readValue_X10_advance rfl rfl rfl (by decide +kernel) ⟨Nat.le_of_ble_eq_true rfl, Nat.le_of_ble_eq_true rfl⟩) ⟨fun a U g mk q => by obtain ⟨q0, q1, qP, qK, qD⟩ := q; exact ⟨q0, q1, qP, va_K.moved (u := U) (U := U.calling g mk a) (Vm.Alike.refl U.vm) qK, qD⟩, va_recv hKc hPc (ci := 10) (q0 := 0) rfl rfl, fun U hU hW => ⟨rfl, by rw [hU], by rw [hU]; exact hPc, va_K.moved hW.alike hKc, hDc.weaken (fun _ _ _ _ => trivial)⟩⟩ rfl rfl hl.1 rfl (lv_room (Nat.le_of_ble_eq_true rfl)) dX5_readValue_123 ⟨Nat.le_of_ble_eq_true rfl, Nat.le_of_ble_eq_true rfl⟩) hS (fun q _ h => hFc q h) hFc (fun u_10 t H1 locs ht hvm hw_11 hB hz1 hk1 hS => ?_)
        obtain ⟨hP1, hK1, hD1⟩ := hB
        rw [ht] at hP1
        have hK1 := va_K.moved hvm.symm hK1
        obtain ⟨hP, hD⟩ := va_join (wr := [(h0, .inr (5, [.ref r0_0, .int v1_6, .int v0_2, .int v0_3]))]) (w1 := [(r0_0, .inr (10, [.ref r1_0, .ref r1_1, .int v1_2, .int (u_10.1 0), .int (u_10.1 1), .int (u_10.1 2), .int (u_10.1 3), .int (u_10.1 4)])), (r1_1, .inl (k2, 1200, .inl f2)), (r1_0, .inl (k3, 13, .inl f3))]) hP hD [1, 2, 3] [0] rfl rfl (by decide) (by decide) hk1 hFc hP1 hD1
        have hK := hK
        generalize H1 = H at hP hS ⊢
        have hP := hP.sub (ws' := [(h0, .inr (5, [.ref r0_0, .int v1_6, .int v0_2, .int v0_3])), (r0_0, .inr (10, [.ref r1_0, .ref r1_1, .int v1_2, .int (u_10.1 0), .int (u_10.1 1), .int (u_10.1 2), .int (u_10.1 3), .int (u_10.1 4)])), (r1_1, .inl (k2, 1200, .inl f2)), (r1_0, .inl (k3, 13, .inl f3))]) [0, 1, 2, 3] rfl
        have hD := hD.sub (ws' := [(h0, .inr (5, [.ref r0_0, .int v1_6, .int v0_2, .int v0_3])), (r0_0, .inr (10, [.ref r1_0, .ref r1_1, .int v1_2, .int (u_10.1 0), .int (u_10.1 1), .int (u_10.1 2), .int (u_10.1 3), .int (u_10.1 4)])), (r1_1, .inl (k2, 1200, .inl f2)), (r1_0, .inl (k3, 13, .inl f3))]) [0, 1, 2, 3] (by decide) rfl
        have hP : va_P (dC, dI) vwCl [(h0, .inr (5, [.ref r0_0, .int v1_6, .int v0_2, .int v0_3])), (r0_0, .inr (10, [.ref r1_0, .ref r1_1, .int v1_2, .int (u_10.1 0), .int (u_10.1 1), .int (u_10.1 2), .int (u_10.1 3), .int (u_10.1 4)])), (r1_1, .inl (k2, 1200, .inl f2)), (r1_0, .inl (k3, 13, .inl f3))] H := hP
        have hD : va_D A [(h0, .inr (5, [.ref r0_0, .int v1_6, .int v0_2, .int v0_3])), (r0_0, .inr (10, [.ref r1_0, .ref r1_1, .int v1_2, .int (u_10.1 0), .int (u_10.1 1), .int (u_10.1 2), .int (u_10.1 3), .int (u_10.1 4)])), (r1_1, .inl (k2, 1200, .inl f2)), (r1_0, .inl (k3, 13, .inl f3))] := hD
        obtain ⟨hmr_9_0, hmr_9_1, hmr_9_2, hmr_9_3, -⟩ := hw_11
        refine lv_iconst (v := 1) hx hb dX5_readValue_126 (by decide +kernel) ?_
        have hP9 := hP.sub (ws' := [(h0, .inr (5, [.ref r0_0, .int v1_6, .int v0_2, .int v0_3])), (r0_0, .inr (10, [.ref r1_0, .ref r1_1, .int v1_2, .int (u_10.1 0), .int (u_10.1 1), .int (u_10.1 2), .int (u_10.1 3), .int (u_10.1 4)])), (r1_1, .inl (k2, 1200, .inl f2)), (r1_0, .inl (k3, 13, .inl f3))]) [0, 1, 2, 3] rfl
        have hD9 := hD.sub (ws' := [(h0, .inr (5, [.ref r0_0, .int v1_6, .int v0_2, .int v0_3])), (r0_0, .inr (10, [.ref r1_0, .ref r1_1, .int v1_2, .int (u_10.1 0), .int (u_10.1 1), .int (u_10.1 2), .int (u_10.1 3), .int (u_10.1 4)])), (r1_1, .inl (k2, 1200, .inl f2)), (r1_0, .inl (k3, 13, .inl f3))]) [0, 1, 2, 3] (by decide) rfl
        have hK9 := hK.sub (tys' := [(k2, .byte), (k3, .int)]) [0, 1] rfl
        rw [← hQ]
        exact W.zret (v := 1) hx hb hr rfl (fun t ht hW => ⟨⟨1, ((fun k => ([v1_6, v0_2, v0_3, (u_10.1 0), (u_10.1 1), (u_10.1 2), (u_10.1 3), (u_10.1 4)] : List Int32).getD k 0), (fun k => ([] : List (Nat → Int32)).getD k (fun _ => 0)), (fun k => ([] : List (Nat → Int64)).getD k (fun _ => 0))), rfl, ⟨(show (0 : Int) ≤ (1 : Int32).toInt ∧ (1 : Int32).toInt ≤ 1 by decide +kernel), (show (0 : Int) ≤ ((u_10.1 0) : Int32).toInt ∧ ((u_10.1 0) : Int32).toInt ≤ 1200 by omega), (show (0 : Int) ≤ ((u_10.1 1) : Int32).toInt ∧ ((u_10.1 1) : Int32).toInt ≤ 5 by omega), (show (0 : Int) ≤ ((u_10.1 2) : Int32).toInt ∧ ((u_10.1 2) : Int32).toInt ≤ 1200 by omega), (show (-1 : Int) ≤ ((u_10.1 4) : Int32).toInt ∧ ((u_10.1 4) : Int32).toInt ≤ 12 by omega), trivial⟩, by rw [ht]; exact hP9, va_K.moved hW.alike hK9, hD9⟩, hS.F ht⟩) hS.2.2 dX5_readValue_127
      have oc_8 := zk_nle rfl rfl c_8
      refine lv_aload_n hx hb dX5_readValue_105 rfl (lv_at hl 3 rfl) ?_
      refine lv_iconst (v := 2) hx hb dX5_readValue_106 (by decide +kernel) ?_
      refine lv_iload hx hb dX5_readValue_107 (lv_at hl 2 rfl) ?_
      have hPc := hP.sub (ws' := [(h0, .inr (5, [.ref r0_0, .int v0_1, .int v0_2, .int v0_3]))]) [0] rfl
      have hDc := hD.sub (ws' := [(h0, .inr (5, [.ref r0_0, .int v0_1, .int v0_2, .int v0_3]))]) [0] (by decide) rfl
      have hKc := hK.sub (tys' := []) [] rfl
      have hFc := va_free (wc := [(h0, .inr (5, [.ref r0_0, .int v0_1, .int v0_2, .int v0_3]))]) hD hS hA [0] rfl
      refine va_calli (va_runV (As := [.int 2, .int v1_5]) (rest := []) ⟨hx, hb, hml, hown, hts⟩ (zs_X5_stopAt l dC dI h0 2 v1_5 r0_0 v0_1 v0_2 v0_3  H.size) (cwV 2 hts gX5_readValue_X5_stopAt rfl rfl rfl (by decide +kernel) ⟨Nat.le_of_ble_eq_true rfl, Nat.le_of_ble_eq_true rfl⟩) ⟨fun a U g mk q => by obtain ⟨q0, q1, qP, qK, qD⟩ := q; exact ⟨q0, q1, qP, va_K.moved (u := U) (U := U.calling g mk a) (Vm.Alike.refl U.vm) qK, qD⟩, va_recv hKc hPc (ci := 5) (q0 := 0) rfl rfl, fun U hU hW => ⟨rfl, by rw [hU], by rw [hU]; exact hPc, va_K.moved hW.alike hKc, hDc.weaken (fun _ _ _ _ => trivial)⟩⟩ rfl rfl hl.1 rfl (lv_room (Nat.le_of_ble_eq_true rfl)) dX5_readValue_109 ⟨Nat.le_of_ble_eq_true rfl, Nat.le_of_ble_eq_true rfl⟩) hS (fun q _ h => hFc q h) hFc (fun r_12 u_13 t H1 locs ht hvm hw_14 hB hz1 hk1 hS => ?_)
      obtain ⟨hP1, hK1, hD1⟩ := hB
      rw [ht] at hP1
      have hK1 := va_K.moved hvm.symm hK1
      obtain ⟨hP, hD⟩ := va_join (wr := [(r0_0, .inr (10, [.ref r1_0, .ref r1_1, .int v1_2, .int v1_3, .int v1_4, .int v1_5, .int v1_6, .int v1_7])), (r1_1, .inl (k2, 1200, .inl f2)), (r1_0, .inl (k3, 13, .inl f3))]) (w1 := [(h0, .inr (5, [.ref r0_0, .int v0_1, .int (u_13.1 0), .int (u_13.1 1)]))]) hP hD [0] [1, 2, 3] rfl rfl (by decide) (by decide) hk1 hFc hP1 hD1
      have hK := hK
      generalize H1 = H at hP hS ⊢
      have hP := hP.sub (ws' := [(h0, .inr (5, [.ref r0_0, .int v0_1, .int (u_13.1 0), .int (u_13.1 1)])), (r0_0, .inr (10, [.ref r1_0, .ref r1_1, .int v1_2, .int v1_3, .int v1_4, .int v1_5, .int v1_6, .int v1_7])), (r1_1, .inl (k2, 1200, .inl f2)), (r1_0, .inl (k3, 13, .inl f3))]) [3, 0, 1, 2] rfl
      have hD := hD.sub (ws' := [(h0, .inr (5, [.ref r0_0, .int v0_1, .int (u_13.1 0), .int (u_13.1 1)])), (r0_0, .inr (10, [.ref r1_0, .ref r1_1, .int v1_2, .int v1_3, .int v1_4, .int v1_5, .int v1_6, .int v1_7])), (r1_1, .inl (k2, 1200, .inl f2)), (r1_0, .inl (k3, 13, .inl f3))]) [3, 0, 1, 2] (by decide) rfl
      have hP : va_P (dC, dI) vwCl [(h0, .inr (5, [.ref r0_0, .int v0_1, .int (u_13.1 0), .int (u_13.1 1)])), (r0_0, .inr (10, [.ref r1_0, .ref r1_1, .int v1_2, .int v1_3, .int v1_4, .int v1_5, .int v1_6, .int v1_7])), (r1_1, .inl (k2, 1200, .inl f2)), (r1_0, .inl (k3, 13, .inl f3))] H := hP
      have hD : va_D A [(h0, .inr (5, [.ref r0_0, .int v0_1, .int (u_13.1 0), .int (u_13.1 1)])), (r0_0, .inr (10, [.ref r1_0, .ref r1_1, .int v1_2, .int v1_3, .int v1_4, .int v1_5, .int v1_6, .int v1_7])), (r1_1, .inl (k2, 1200, .inl f2)), (r1_0, .inl (k3, 13, .inl f3))] := hD
      obtain ⟨hr_12, -⟩ := hw_14
      have hP9 := hP.sub (ws' := [(h0, .inr (5, [.ref r0_0, .int v0_1, .int (u_13.1 0), .int (u_13.1 1)])), (r0_0, .inr (10, [.ref r1_0, .ref r1_1, .int v1_2, .int v1_3, .int v1_4, .int v1_5, .int v1_6, .int v1_7])), (r1_1, .inl (k2, 1200, .inl f2)), (r1_0, .inl (k3, 13, .inl f3))]) [0, 1, 2, 3] rfl
      have hD9 := hD.sub (ws' := [(h0, .inr (5, [.ref r0_0, .int v0_1, .int (u_13.1 0), .int (u_13.1 1)])), (r0_0, .inr (10, [.ref r1_0, .ref r1_1, .int v1_2, .int v1_3, .int v1_4, .int v1_5, .int v1_6, .int v1_7])), (r1_1, .inl (k2, 1200, .inl f2)), (r1_0, .inl (k3, 13, .inl f3))]) [0, 1, 2, 3] (by decide) rfl
      have hK9 := hK.sub (tys' := [(k2, .byte), (k3, .int)]) [0, 1] rfl
      rw [← hQ]
      exact W.zret (v := r_12) hx hb hr (zn_b (by omega)) (fun t ht hW => ⟨⟨r_12, ((fun k => ([v0_1, (u_13.1 0), (u_13.1 1), v1_3, v1_4, v1_5, v1_6, v1_7] : List Int32).getD k 0), (fun k => ([] : List (Nat → Int32)).getD k (fun _ => 0)), (fun k => ([] : List (Nat → Int64)).getD k (fun _ => 0))), rfl, ⟨(show (0 : Int) ≤ (r_12 : Int32).toInt ∧ (r_12 : Int32).toInt ≤ 1 by omega), (show (0 : Int) ≤ (v1_3 : Int32).toInt ∧ (v1_3 : Int32).toInt ≤ 1200 by omega), (show (0 : Int) ≤ (v1_4 : Int32).toInt ∧ (v1_4 : Int32).toInt ≤ 5 by omega), (show (0 : Int) ≤ (v1_5 : Int32).toInt ∧ (v1_5 : Int32).toInt ≤ 1200 by omega), (show (-1 : Int) ≤ (v1_7 : Int32).toInt ∧ (v1_7 : Int32).toInt ≤ 12 by omega), trivial⟩, by rw [ht]; exact hP9, va_K.moved hW.alike hK9, hD9⟩, hS.F ht⟩) hS.2.2 dX5_readValue_112
    have oc_2 := zk_ne rfl (by decide +kernel : (2 : Int32).toInt = 2) c_2
    refine lv_aload_n hx hb dX5_readValue_55 rfl (lv_at hl 2 rfl) ?_
    refine lv_iconst (v := 1) hx hb dX5_readValue_56 (by decide +kernel) ?_
    refine lv_aload_n hx hb dX5_readValue_57 rfl (lv_at hl 2 rfl) ?_
    refine va_get (D := (dC, dI)) (ci := 5) (v := .ref r0_0) (C := RX5) (T := TX5) (N := 4) hx hb hts zn_X5_readValue_X5 hown hK hP 0 rfl rfl 0 (by decide) (hts (.fieldLink RX5 12 "ShortEnough$Parser" "words" "LShortEnough$Words;") zw_X5_readValue_299) (fun _ h9 => h9) rfl dX5_readValue_58 ?_
    refine va_get (D := (dC, dI)) (ci := 10) (v := .int v1_5) (C := RX10) (T := TX10) (N := 8) hx hb hts zn_X5_readValue_X10 hown hK hP 1 rfl rfl 5 (by decide) (hts (.fieldLink RX5 64 "ShortEnough$Words" "start" "I") zw_X5_readValue_301) (fun _ h9 => h9) rfl dX5_readValue_61 ?_
    have hPc := hP.sub (ws' := [(h0, .inr (5, [.ref r0_0, .int v0_1, .int v0_2, .int v0_3]))]) [0] rfl
    have hDc := hD.sub (ws' := [(h0, .inr (5, [.ref r0_0, .int v0_1, .int v0_2, .int v0_3]))]) [0] (by decide) rfl
    have hKc := hK.sub (tys' := []) [] rfl
    have hFc := va_free (wc := [(h0, .inr (5, [.ref r0_0, .int v0_1, .int v0_2, .int v0_3]))]) hD hS hA [0] rfl
    refine va_calli (va_runV (As := [.int 1, .int v1_5]) (rest := []) ⟨hx, hb, hml, hown, hts⟩ (zs_X5_stopAt l dC dI h0 1 v1_5 r0_0 v0_1 v0_2 v0_3  H.size) (cwV 2 hts gX5_readValue_X5_stopAt rfl rfl rfl (by decide +kernel) ⟨Nat.le_of_ble_eq_true rfl, Nat.le_of_ble_eq_true rfl⟩) ⟨fun a U g mk q => by obtain ⟨q0, q1, qP, qK, qD⟩ := q; exact ⟨q0, q1, qP, va_K.moved (u := U) (U := U.calling g mk a) (Vm.Alike.refl U.vm) qK, qD⟩, va_recv hKc hPc (ci := 5) (q0 := 0) rfl rfl, fun U hU hW => ⟨rfl, by rw [hU], by rw [hU]; exact hPc, va_K.moved hW.alike hKc, hDc.weaken (fun _ _ _ _ => trivial)⟩⟩ rfl rfl hl.1 rfl (lv_room (Nat.le_of_ble_eq_true rfl)) dX5_readValue_64 ⟨Nat.le_of_ble_eq_true rfl, Nat.le_of_ble_eq_true rfl⟩) hS (fun q _ h => hFc q h) hFc (fun r_15 u_16 t H1 locs ht hvm hw_17 hB hz1 hk1 hS => ?_)
    obtain ⟨hP1, hK1, hD1⟩ := hB
    rw [ht] at hP1
    have hK1 := va_K.moved hvm.symm hK1
    obtain ⟨hP, hD⟩ := va_join (wr := [(r0_0, .inr (10, [.ref r1_0, .ref r1_1, .int v1_2, .int v1_3, .int v1_4, .int v1_5, .int v1_6, .int v1_7])), (r1_1, .inl (k2, 1200, .inl f2)), (r1_0, .inl (k3, 13, .inl f3))]) (w1 := [(h0, .inr (5, [.ref r0_0, .int v0_1, .int (u_16.1 0), .int (u_16.1 1)]))]) hP hD [0] [1, 2, 3] rfl rfl (by decide) (by decide) hk1 hFc hP1 hD1
    have hK := hK
    generalize H1 = H at hP hS ⊢
    have hP := hP.sub (ws' := [(h0, .inr (5, [.ref r0_0, .int v0_1, .int (u_16.1 0), .int (u_16.1 1)])), (r0_0, .inr (10, [.ref r1_0, .ref r1_1, .int v1_2, .int v1_3, .int v1_4, .int v1_5, .int v1_6, .int v1_7])), (r1_1, .inl (k2, 1200, .inl f2)), (r1_0, .inl (k3, 13, .inl f3))]) [3, 0, 1, 2] rfl
    have hD := hD.sub (ws' := [(h0, .inr (5, [.ref r0_0, .int v0_1, .int (u_16.1 0), .int (u_16.1 1)])), (r0_0, .inr (10, [.ref r1_0, .ref r1_1, .int v1_2, .int v1_3, .int v1_4, .int v1_5, .int v1_6, .int v1_7])), (r1_1, .inl (k2, 1200, .inl f2)), (r1_0, .inl (k3, 13, .inl f3))]) [3, 0, 1, 2] (by decide) rfl
    have hP : va_P (dC, dI) vwCl [(h0, .inr (5, [.ref r0_0, .int v0_1, .int (u_16.1 0), .int (u_16.1 1)])), (r0_0, .inr (10, [.ref r1_0, .ref r1_1, .int v1_2, .int v1_3, .int v1_4, .int v1_5, .int v1_6, .int v1_7])), (r1_1, .inl (k2, 1200, .inl f2)), (r1_0, .inl (k3, 13, .inl f3))] H := hP
    have hD : va_D A [(h0, .inr (5, [.ref r0_0, .int v0_1, .int (u_16.1 0), .int (u_16.1 1)])), (r0_0, .inr (10, [.ref r1_0, .ref r1_1, .int v1_2, .int v1_3, .int v1_4, .int v1_5, .int v1_6, .int v1_7])), (r1_1, .inl (k2, 1200, .inl f2)), (r1_0, .inl (k3, 13, .inl f3))] := hD
    obtain ⟨hr_15, -⟩ := hw_17
    have hP9 := hP.sub (ws' := [(h0, .inr (5, [.ref r0_0, .int v0_1, .int (u_16.1 0), .int (u_16.1 1)])), (r0_0, .inr (10, [.ref r1_0, .ref r1_1, .int v1_2, .int v1_3, .int v1_4, .int v1_5, .int v1_6, .int v1_7])), (r1_1, .inl (k2, 1200, .inl f2)), (r1_0, .inl (k3, 13, .inl f3))]) [0, 1, 2, 3] rfl
    have hD9 := hD.sub (ws' := [(h0, .inr (5, [.ref r0_0, .int v0_1, .int (u_16.1 0), .int (u_16.1 1)])), (r0_0, .inr (10, [.ref r1_0, .ref r1_1, .int v1_2, .int v1_3, .int v1_4, .int v1_5, .int v1_6, .int v1_7])), (r1_1, .inl (k2, 1200, .inl f2)), (r1_0, .inl (k3, 13, .inl f3))]) [0, 1, 2, 3] (by decide) rfl
    have hK9 := hK.sub (tys' := [(k2, .byte), (k3, .int)]) [0, 1] rfl
    rw [← hQ]
    exact W.zret (v := r_15) hx hb hr (zn_b (by omega)) (fun t ht hW => ⟨⟨r_15, ((fun k => ([v0_1, (u_16.1 0), (u_16.1 1), v1_3, v1_4, v1_5, v1_6, v1_7] : List Int32).getD k 0), (fun k => ([] : List (Nat → Int32)).getD k (fun _ => 0)), (fun k => ([] : List (Nat → Int64)).getD k (fun _ => 0))), rfl, ⟨(show (0 : Int) ≤ (r_15 : Int32).toInt ∧ (r_15 : Int32).toInt ≤ 1 by omega), (show (0 : Int) ≤ (v1_3 : Int32).toInt ∧ (v1_3 : Int32).toInt ≤ 1200 by omega), (show (0 : Int) ≤ (v1_4 : Int32).toInt ∧ (v1_4 : Int32).toInt ≤ 5 by omega), (show (0 : Int) ≤ (v1_5 : Int32).toInt ∧ (v1_5 : Int32).toInt ≤ 1200 by omega), (show (-1 : Int) ≤ (v1_7 : Int32).toInt ∧ (v1_7 : Int32).toInt ≤ 12 by omega), trivial⟩, by rw [ht]; exact hP9, va_K.moved hW.alike hK9, hD9⟩, hS.F ht⟩) hS.2.2 dX5_readValue_67
  refine lv_if_eq (tgt := 29) hx hb dX5_readValue_10 (by decide) (fun c_18 => ?_) (fun c_18 => ?_)
  · have oc_18 := zk_eq rfl (by decide +kernel : (0 : Int32).toInt = 0) c_18
    exact jp29_1   s.heap [] ls  hP hD hS (lv_sub hl [0, 1, 2, 3, 4] rfl)
  have oc_18 := zk_ne rfl (by decide +kernel : (0 : Int32).toInt = 0) c_18
  refine lv_aload_n hx hb dX5_readValue_13 rfl (lv_at hl 1 rfl) ?_
  refine va_get (D := (dC, dI)) (ci := 5) (v := .ref r0_0) (C := RX5) (T := TX5) (N := 4) hx hb hts zn_X5_readValue_X5 hown hK hP 0 rfl rfl 0 (by decide) (hts (.fieldLink RX5 12 "ShortEnough$Parser" "words" "LShortEnough$Words;") zw_X5_readValue_299) (fun _ h9 => h9) rfl dX5_readValue_14 ?_
  refine lv_bipush (v := 45) hx hb dX5_readValue_17 (by decide +kernel) ?_
  have hPc := hP.sub (ws' := [(r0_0, .inr (10, [.ref r1_0, .ref r1_1, .int v1_2, .int v1_3, .int v1_4, .int v1_5, .int v1_6, .int v1_7]))]) [1] rfl
  have hDc := hD.sub (ws' := [(r0_0, .inr (10, [.ref r1_0, .ref r1_1, .int v1_2, .int v1_3, .int v1_4, .int v1_5, .int v1_6, .int v1_7]))]) [1] (by decide) rfl
  have hKc := hK.sub (tys' := []) [] rfl
  have hFc := va_free (wc := [(r0_0, .inr (10, [.ref r1_0, .ref r1_1, .int v1_2, .int v1_3, .int v1_4, .int v1_5, .int v1_6, .int v1_7]))]) hD hS hA [1] rfl
  refine va_calli (va_runV (As := [.int 45]) (rest := []) ⟨hx, hb, hml, hown, hts⟩ (zs_X10_isSign l dC dI r0_0 45 r1_0 r1_1 v1_2 v1_3 v1_4 v1_5 v1_6 v1_7 (by omega) (by omega) (by omega) (by omega) (by omega) s.heap.size) (cwV 1 hts gX5_readValue_X10_isSign rfl rfl rfl (by decide +kernel) ⟨Nat.le_of_ble_eq_true rfl, Nat.le_of_ble_eq_true rfl⟩) ⟨fun a U g mk q => by obtain ⟨q0, q1, qP, qK, qD⟩ := q; exact ⟨q0, q1, qP, va_K.moved (u := U) (U := U.calling g mk a) (Vm.Alike.refl U.vm) qK, qD⟩, va_recv hKc hPc (ci := 10) (q0 := 0) rfl rfl, fun U hU hW => ⟨rfl, by rw [hU], by rw [hU]; exact hPc, va_K.moved hW.alike hKc, hDc.weaken (fun _ _ _ _ => trivial)⟩⟩ rfl rfl hl.1 rfl (lv_room (Nat.le_of_ble_eq_true rfl)) dX5_readValue_19 ⟨Nat.le_of_ble_eq_true rfl, Nat.le_of_ble_eq_true rfl⟩) hS (fun q _ h => hFc q h) hFc (fun r_19 u_20 t H1 locs ht hvm hw_21 hB hz1 hk1 hS => ?_)
  obtain ⟨hP1, hK1, hD1⟩ := hB
  rw [ht] at hP1
  have hK1 := va_K.moved hvm.symm hK1
  obtain ⟨hP, hD⟩ := va_join (wr := [(h0, .inr (5, [.ref r0_0, .int v0_1, .int v0_2, .int v0_3])), (r1_1, .inl (k2, 1200, .inl f2)), (r1_0, .inl (k3, 13, .inl f3))]) (w1 := [(r0_0, .inr (10, [.ref r1_0, .ref r1_1, .int v1_2, .int v1_3, .int v1_4, .int v1_5, .int v1_6, .int v1_7]))]) hP hD [1] [0, 2, 3] rfl rfl (by decide) (by decide) hk1 hFc hP1 hD1
  have hK := hK
  generalize H1 = H at hP hS ⊢
  have hP := hP.sub (ws' := [(h0, .inr (5, [.ref r0_0, .int v0_1, .int v0_2, .int v0_3])), (r0_0, .inr (10, [.ref r1_0, .ref r1_1, .int v1_2, .int v1_3, .int v1_4, .int v1_5, .int v1_6, .int v1_7])), (r1_1, .inl (k2, 1200, .inl f2)), (r1_0, .inl (k3, 13, .inl f3))]) [0, 3, 1, 2] rfl
  have hD := hD.sub (ws' := [(h0, .inr (5, [.ref r0_0, .int v0_1, .int v0_2, .int v0_3])), (r0_0, .inr (10, [.ref r1_0, .ref r1_1, .int v1_2, .int v1_3, .int v1_4, .int v1_5, .int v1_6, .int v1_7])), (r1_1, .inl (k2, 1200, .inl f2)), (r1_0, .inl (k3, 13, .inl f3))]) [0, 3, 1, 2] (by decide) rfl
  have hP : va_P (dC, dI) vwCl [(h0, .inr (5, [.ref r0_0, .int v0_1, .int v0_2, .int v0_3])), (r0_0, .inr (10, [.ref r1_0, .ref r1_1, .int v1_2, .int v1_3, .int v1_4, .int v1_5, .int v1_6, .int v1_7])), (r1_1, .inl (k2, 1200, .inl f2)), (r1_0, .inl (k3, 13, .inl f3))] H := hP
  have hD : va_D A [(h0, .inr (5, [.ref r0_0, .int v0_1, .int v0_2, .int v0_3])), (r0_0, .inr (10, [.ref r1_0, .ref r1_1, .int v1_2, .int v1_3, .int v1_4, .int v1_5, .int v1_6, .int v1_7])), (r1_1, .inl (k2, 1200, .inl f2)), (r1_0, .inl (k3, 13, .inl f3))] := hD
  obtain ⟨hr_19, hir_19, -⟩ := hw_21
  refine lv_if_eq (tgt := 29) hx hb dX5_readValue_22 (by decide) (fun c_22 => ?_) (fun c_22 => ?_)
  · have oc_22 := zk_eq rfl (by decide +kernel : (0 : Int32).toInt = 0) c_22
    exact jp29_1   H locs ls  hP hD hS (lv_sub hl [0, 1, 2, 3, 4] rfl)
  have oc_22 := zk_ne rfl (by decide +kernel : (0 : Int32).toInt = 0) c_22
  refine lv_iconst (v := 1) hx hb dX5_readValue_25 (by decide +kernel) ?_
  refine lv_goto (tgt := 30) hx hb dX5_readValue_26 (by decide) ?_
  refine lv_istore (lv' := [(5, .int 1), (4, .int v1_5), (0, .ref h0), (1, .int p1), (2, .int p2), (3, .int p3)]) hx hb dX5_readValue_30 hl (by decide) rfl (fun ls hl => ?_)
  refine lv_iload hx hb dX5_readValue_32 (lv_at hl 0 rfl) ?_
  refine lv_if_eq (tgt := 44) hx hb dX5_readValue_34 (by decide) (fun c_23 => by exfalso; have oc_23 := zk_eq (by decide +kernel : (1 : Int32).toInt = 1) (by decide +kernel : (0 : Int32).toInt = 0) c_23; omega) (fun c_23 => ?_)
  have oc_23 := zk_ne (by decide +kernel : (1 : Int32).toInt = 1) (by decide +kernel : (0 : Int32).toInt = 0) c_23
  refine lv_aload_n hx hb dX5_readValue_37 rfl (lv_at hl 2 rfl) ?_
  refine va_get (D := (dC, dI)) (ci := 5) (v := .ref r0_0) (C := RX5) (T := TX5) (N := 4) hx hb hts zn_X5_readValue_X5 hown hK hP 0 rfl rfl 0 (by decide) (hts (.fieldLink RX5 12 "ShortEnough$Parser" "words" "LShortEnough$Words;") zw_X5_readValue_299) (fun _ h9 => h9) rfl dX5_readValue_38 ?_
  have hPc := hP.sub (ws' := [(r0_0, .inr (10, [.ref r1_0, .ref r1_1, .int v1_2, .int v1_3, .int v1_4, .int v1_5, .int v1_6, .int v1_7])), (r1_1, .inl (k2, 1200, .inl f2)), (r1_0, .inl (k3, 13, .inl f3))]) [1, 2, 3] rfl
  have hDc := hD.sub (ws' := [(r0_0, .inr (10, [.ref r1_0, .ref r1_1, .int v1_2, .int v1_3, .int v1_4, .int v1_5, .int v1_6, .int v1_7])), (r1_1, .inl (k2, 1200, .inl f2)), (r1_0, .inl (k3, 13, .inl f3))]) [1, 2, 3] (by decide) rfl
  have hKc := hK.sub (tys' := [(k2, .byte), (k3, .int)]) [0, 1] rfl
  have hFc := va_free (wc := [(r0_0, .inr (10, [.ref r1_0, .ref r1_1, .int v1_2, .int v1_3, .int v1_4, .int v1_5, .int v1_6, .int v1_7])), (r1_1, .inl (k2, 1200, .inl f2)), (r1_0, .inl (k3, 13, .inl f3))]) hD hS hA [1, 2, 3] rfl
  refine va_callv (va_runV (As := []) (rest := []) ⟨hx, hb, hml, hown, hts⟩ (zs_X10_advance l dC dI r0_0 r1_0 r1_1 v1_2 v1_3 v1_4 v1_5 v1_6 v1_7 k2 f2 k3 f3 (by omega) (by omega) (by omega) (by omega) (by omega) H.size) (cwV 0 hts gX5_readValue_X10_advance rfl rfl rfl (by decide +kernel) ⟨Nat.le_of_ble_eq_true rfl, Nat.le_of_ble_eq_true rfl⟩) ⟨fun a U g mk q => by obtain ⟨q0, q1, qP, qK, qD⟩ := q; exact ⟨q0, q1, qP, va_K.moved (u := U) (U := U.calling g mk a) (Vm.Alike.refl U.vm) qK, qD⟩, va_recv hKc hPc (ci := 10) (q0 := 0) rfl rfl, fun U hU hW => ⟨rfl, by rw [hU], by rw [hU]; exact hPc, va_K.moved hW.alike hKc, hDc.weaken (fun _ _ _ _ => trivial)⟩⟩ rfl rfl hl.1 rfl (lv_room (Nat.le_of_ble_eq_true rfl)) dX5_readValue_41 ⟨Nat.le_of_ble_eq_true rfl, Nat.le_of_ble_eq_true rfl⟩) hS (fun q _ h => hFc q h) hFc (fun u_25 t H1 locs ht hvm hw_26 hB hz1 hk1 hS => ?_)
  obtain ⟨hP1, hK1, hD1⟩ := hB
  rw [ht] at hP1
  have hK1 := va_K.moved hvm.symm hK1
  obtain ⟨hP, hD⟩ := va_join (wr := [(h0, .inr (5, [.ref r0_0, .int v0_1, .int v0_2, .int v0_3]))]) (w1 := [(r0_0, .inr (10, [.ref r1_0, .ref r1_1, .int v1_2, .int (u_25.1 0), .int (u_25.1 1), .int (u_25.1 2), .int (u_25.1 3), .int (u_25.1 4)])), (r1_1, .inl (k2, 1200, .inl f2)), (r1_0, .inl (k3, 13, .inl f3))]) hP hD [1, 2, 3] [0] rfl rfl (by decide) (by decide) hk1 hFc hP1 hD1
  have hK := hK
  generalize H1 = H at hP hS ⊢
  have hP := hP.sub (ws' := [(h0, .inr (5, [.ref r0_0, .int v0_1, .int v0_2, .int v0_3])), (r0_0, .inr (10, [.ref r1_0, .ref r1_1, .int v1_2, .int (u_25.1 0), .int (u_25.1 1), .int (u_25.1 2), .int (u_25.1 3), .int (u_25.1 4)])), (r1_1, .inl (k2, 1200, .inl f2)), (r1_0, .inl (k3, 13, .inl f3))]) [0, 1, 2, 3] rfl
  have hD := hD.sub (ws' := [(h0, .inr (5, [.ref r0_0, .int v0_1, .int v0_2, .int v0_3])), (r0_0, .inr (10, [.ref r1_0, .ref r1_1, .int v1_2, .int (u_25.1 0), .int (u_25.1 1), .int (u_25.1 2), .int (u_25.1 3), .int (u_25.1 4)])), (r1_1, .inl (k2, 1200, .inl f2)), (r1_0, .inl (k3, 13, .inl f3))]) [0, 1, 2, 3] (by decide) rfl
  have hP : va_P (dC, dI) vwCl [(h0, .inr (5, [.ref r0_0, .int v0_1, .int v0_2, .int v0_3])), (r0_0, .inr (10, [.ref r1_0, .ref r1_1, .int v1_2, .int (u_25.1 0), .int (u_25.1 1), .int (u_25.1 2), .int (u_25.1 3), .int (u_25.1 4)])), (r1_1, .inl (k2, 1200, .inl f2)), (r1_0, .inl (k3, 13, .inl f3))] H := hP
  have hD : va_D A [(h0, .inr (5, [.ref r0_0, .int v0_1, .int v0_2, .int v0_3])), (r0_0, .inr (10, [.ref r1_0, .ref r1_1, .int v1_2, .int (u_25.1 0), .int (u_25.1 1), .int (u_25.1 2), .int (u_25.1 3), .int (u_25.1 4)])), (r1_1, .inl (k2, 1200, .inl f2)), (r1_0, .inl (k3, 13, .inl f3))] := hD
  obtain ⟨hmr_24_0, hmr_24_1, hmr_24_2, hmr_24_3, -⟩ := hw_26
  refine lv_aload_n hx hb dX5_readValue_44 rfl (lv_at hl 2 rfl) ?_
  refine va_get (D := (dC, dI)) (ci := 5) (v := .ref r0_0) (C := RX5) (T := TX5) (N := 4) hx hb hts zn_X5_readValue_X5 hown hK hP 0 rfl rfl 0 (by decide) (hts (.fieldLink RX5 12 "ShortEnough$Parser" "words" "LShortEnough$Words;") zw_X5_readValue_299) (fun _ h9 => h9) rfl dX5_readValue_45 ?_
  refine va_get (D := (dC, dI)) (ci := 10) (v := .int (u_25.1 1)) (C := RX10) (T := TX10) (N := 8) hx hb hts zn_X5_readValue_X10 hown hK hP 1 rfl rfl 4 (by decide) (hts (.fieldLink RX5 34 "ShortEnough$Words" "kind" "I") zw_X5_readValue_302) (fun _ h9 => h9) rfl dX5_readValue_48 ?_
  refine lv_iconst (v := 2) hx hb dX5_readValue_51 (by decide +kernel) ?_
  refine lv_icmp_eq (tgt := 68) hx hb dX5_readValue_52 (by decide) (fun c_27 => ?_) (fun c_27 => ?_)
  · have oc_27 := zk_eq rfl (by decide +kernel : (2 : Int32).toInt = 2) c_27
    refine lv_iload hx hb dX5_readValue_68 (lv_at hl 0 rfl) ?_
    refine lv_if_eq (tgt := 84) hx hb dX5_readValue_70 (by decide) (fun c_28 => by exfalso; have oc_28 := zk_eq (by decide +kernel : (1 : Int32).toInt = 1) (by decide +kernel : (0 : Int32).toInt = 0) c_28; omega) (fun c_28 => ?_)
    have oc_28 := zk_ne (by decide +kernel : (1 : Int32).toInt = 1) (by decide +kernel : (0 : Int32).toInt = 0) c_28
    refine lv_aload_n hx hb dX5_readValue_73 rfl (lv_at hl 2 rfl) ?_
    refine va_get (D := (dC, dI)) (ci := 5) (v := .ref r0_0) (C := RX5) (T := TX5) (N := 4) hx hb hts zn_X5_readValue_X5 hown hK hP 0 rfl rfl 0 (by decide) (hts (.fieldLink RX5 12 "ShortEnough$Parser" "words" "LShortEnough$Words;") zw_X5_readValue_299) (fun _ h9 => h9) rfl dX5_readValue_74 ?_
    refine va_get (D := (dC, dI)) (ci := 10) (v := .int (u_25.1 3)) (C := RX10) (T := TX10) (N := 8) hx hb hts zn_X5_readValue_X10 hown hK hP 1 rfl rfl 6 (by decide) (hts (.fieldLink RX5 138 "ShortEnough$Words" "value" "I") zw_X5_readValue_303) (fun _ h9 => h9) rfl dX5_readValue_77 ?_
    refine lv_ineg hx hb dX5_readValue_80 ?_
    refine lv_topi (fun x_29 ex_29 => ?_)
    refine lv_goto (tgt := 91) hx hb dX5_readValue_81 (by decide) ?_
    refine lv_istore (lv' := [(6, .int x_29), (5, .int 1), (4, .int v1_5), (0, .ref h0), (1, .int p1), (2, .int p2), (3, .int p3)]) hx hb dX5_readValue_91 hl (by decide) rfl (fun ls hl => ?_)
    refine lv_iload hx hb dX5_readValue_93 (lv_at hl 0 rfl) ?_
    refine lv_iload_n hx hb dX5_readValue_95 rfl (lv_at hl 5 rfl) ?_
    refine lv_icmp_lt (tgt := 105) hx hb dX5_readValue_96 (by decide) (fun c_30 => ?_) (fun c_30 => ?_)
    · have oc_30 := zk_lt rfl rfl c_30
      refine lv_aload_n hx hb dX5_readValue_105 rfl (lv_at hl 3 rfl) ?_
      refine lv_iconst (v := 2) hx hb dX5_readValue_106 (by decide +kernel) ?_
      refine lv_iload hx hb dX5_readValue_107 (lv_at hl 2 rfl) ?_
      have hPc := hP.sub (ws' := [(h0, .inr (5, [.ref r0_0, .int v0_1, .int v0_2, .int v0_3]))]) [0] rfl
      have hDc := hD.sub (ws' := [(h0, .inr (5, [.ref r0_0, .int v0_1, .int v0_2, .int v0_3]))]) [0] (by decide) rfl
      have hKc := hK.sub (tys' := []) [] rfl
      have hFc := va_free (wc := [(h0, .inr (5, [.ref r0_0, .int v0_1, .int v0_2, .int v0_3]))]) hD hS hA [0] rfl
      refine va_calli (va_runV (As := [.int 2, .int v1_5]) (rest := []) ⟨hx, hb, hml, hown, hts⟩ (zs_X5_stopAt l dC dI h0 2 v1_5 r0_0 v0_1 v0_2 v0_3  H.size) (cwV 2 hts gX5_readValue_X5_stopAt rfl rfl rfl (by decide +kernel) ⟨Nat.le_of_ble_eq_true rfl, Nat.le_of_ble_eq_true rfl⟩) ⟨fun a U g mk q => by obtain ⟨q0, q1, qP, qK, qD⟩ := q; exact ⟨q0, q1, qP, va_K.moved (u := U) (U := U.calling g mk a) (Vm.Alike.refl U.vm) qK, qD⟩, va_recv hKc hPc (ci := 5) (q0 := 0) rfl rfl, fun U hU hW => ⟨rfl, by rw [hU], by rw [hU]; exact hPc, va_K.moved hW.alike hKc, hDc.weaken (fun _ _ _ _ => trivial)⟩⟩ rfl rfl hl.1 rfl (lv_room (Nat.le_of_ble_eq_true rfl)) dX5_readValue_109 ⟨Nat.le_of_ble_eq_true rfl, Nat.le_of_ble_eq_true rfl⟩) hS (fun q _ h => hFc q h) hFc (fun r_31 u_32 t H1 locs ht hvm hw_33 hB hz1 hk1 hS => ?_)
      obtain ⟨hP1, hK1, hD1⟩ := hB
      rw [ht] at hP1
      have hK1 := va_K.moved hvm.symm hK1
      obtain ⟨hP, hD⟩ := va_join (wr := [(r0_0, .inr (10, [.ref r1_0, .ref r1_1, .int v1_2, .int (u_25.1 0), .int (u_25.1 1), .int (u_25.1 2), .int (u_25.1 3), .int (u_25.1 4)])), (r1_1, .inl (k2, 1200, .inl f2)), (r1_0, .inl (k3, 13, .inl f3))]) (w1 := [(h0, .inr (5, [.ref r0_0, .int v0_1, .int (u_32.1 0), .int (u_32.1 1)]))]) hP hD [0] [1, 2, 3] rfl rfl (by decide) (by decide) hk1 hFc hP1 hD1
      have hK := hK
      generalize H1 = H at hP hS ⊢
      have hP := hP.sub (ws' := [(h0, .inr (5, [.ref r0_0, .int v0_1, .int (u_32.1 0), .int (u_32.1 1)])), (r0_0, .inr (10, [.ref r1_0, .ref r1_1, .int v1_2, .int (u_25.1 0), .int (u_25.1 1), .int (u_25.1 2), .int (u_25.1 3), .int (u_25.1 4)])), (r1_1, .inl (k2, 1200, .inl f2)), (r1_0, .inl (k3, 13, .inl f3))]) [3, 0, 1, 2] rfl
      have hD := hD.sub (ws' := [(h0, .inr (5, [.ref r0_0, .int v0_1, .int (u_32.1 0), .int (u_32.1 1)])), (r0_0, .inr (10, [.ref r1_0, .ref r1_1, .int v1_2, .int (u_25.1 0), .int (u_25.1 1), .int (u_25.1 2), .int (u_25.1 3), .int (u_25.1 4)])), (r1_1, .inl (k2, 1200, .inl f2)), (r1_0, .inl (k3, 13, .inl f3))]) [3, 0, 1, 2] (by decide) rfl
      have hP : va_P (dC, dI) vwCl [(h0, .inr (5, [.ref r0_0, .int v0_1, .int (u_32.1 0), .int (u_32.1 1)])), (r0_0, .inr (10, [.ref r1_0, .ref r1_1, .int v1_2, .int (u_25.1 0), .int (u_25.1 1), .int (u_25.1 2), .int (u_25.1 3), .int (u_25.1 4)])), (r1_1, .inl (k2, 1200, .inl f2)), (r1_0, .inl (k3, 13, .inl f3))] H := hP
      have hD : va_D A [(h0, .inr (5, [.ref r0_0, .int v0_1, .int (u_32.1 0), .int (u_32.1 1)])), (r0_0, .inr (10, [.ref r1_0, .ref r1_1, .int v1_2, .int (u_25.1 0), .int (u_25.1 1), .int (u_25.1 2), .int (u_25.1 3), .int (u_25.1 4)])), (r1_1, .inl (k2, 1200, .inl f2)), (r1_0, .inl (k3, 13, .inl f3))] := hD
      obtain ⟨hr_31, -⟩ := hw_33
      have hP9 := hP.sub (ws' := [(h0, .inr (5, [.ref r0_0, .int v0_1, .int (u_32.1 0), .int (u_32.1 1)])), (r0_0, .inr (10, [.ref r1_0, .ref r1_1, .int v1_2, .int (u_25.1 0), .int (u_25.1 1), .int (u_25.1 2), .int (u_25.1 3), .int (u_25.1 4)])), (r1_1, .inl (k2, 1200, .inl f2)), (r1_0, .inl (k3, 13, .inl f3))]) [0, 1, 2, 3] rfl
      have hD9 := hD.sub (ws' := [(h0, .inr (5, [.ref r0_0, .int v0_1, .int (u_32.1 0), .int (u_32.1 1)])), (r0_0, .inr (10, [.ref r1_0, .ref r1_1, .int v1_2, .int (u_25.1 0), .int (u_25.1 1), .int (u_25.1 2), .int (u_25.1 3), .int (u_25.1 4)])), (r1_1, .inl (k2, 1200, .inl f2)), (r1_0, .inl (k3, 13, .inl f3))]) [0, 1, 2, 3] (by decide) rfl
      have hK9 := hK.sub (tys' := [(k2, .byte), (k3, .int)]) [0, 1] rfl
      rw [← hQ]
      exact W.zret (v := r_31) hx hb hr (zn_b (by omega)) (fun t ht hW => ⟨⟨r_31, ((fun k => ([v0_1, (u_32.1 0), (u_32.1 1), (u_25.1 0), (u_25.1 1), (u_25.1 2), (u_25.1 3), (u_25.1 4)] : List Int32).getD k 0), (fun k => ([] : List (Nat → Int32)).getD k (fun _ => 0)), (fun k => ([] : List (Nat → Int64)).getD k (fun _ => 0))), rfl, ⟨(show (0 : Int) ≤ (r_31 : Int32).toInt ∧ (r_31 : Int32).toInt ≤ 1 by omega), (show (0 : Int) ≤ ((u_25.1 0) : Int32).toInt ∧ ((u_25.1 0) : Int32).toInt ≤ 1200 by omega), (show (0 : Int) ≤ ((u_25.1 1) : Int32).toInt ∧ ((u_25.1 1) : Int32).toInt ≤ 5 by omega), (show (0 : Int) ≤ ((u_25.1 2) : Int32).toInt ∧ ((u_25.1 2) : Int32).toInt ≤ 1200 by omega), (show (-1 : Int) ≤ ((u_25.1 4) : Int32).toInt ∧ ((u_25.1 4) : Int32).toInt ≤ 12 by omega), trivial⟩, by rw [ht]; exact hP9, va_K.moved hW.alike hK9, hD9⟩, hS.F ht⟩) hS.2.2 dX5_readValue_112
    have oc_30 := zk_nlt rfl rfl c_30
    refine lv_iload hx hb dX5_readValue_99 (lv_at hl 0 rfl) ?_
    refine lv_iload_n hx hb dX5_readValue_101 rfl (lv_at hl 6 rfl) ?_
    refine lv_icmp_le (tgt := 113) hx hb dX5_readValue_102 (by decide) (fun c_34 => ?_) (fun c_34 => ?_)
    · have oc_34 := zk_le rfl rfl c_34
      refine lv_aload_n hx hb dX5_readValue_113 rfl (lv_at hl 3 rfl) ?_
      refine lv_iload hx hb dX5_readValue_114 (lv_at hl 0 rfl) ?_
      refine va_put (D := (dC, dI)) (ci := 5) (v := .int x_29) (ty := .int) (C := RX5) (T := TX5) (N := 4) hx hb hts zn_X5_readValue_X5 tyX5 tyX5_ok nmX5 hown hK hP hD hS 0 rfl rfl 1 (by decide) (hts (.fieldLink RX5 102 "ShortEnough$Parser" "got" "I") zw_X5_readValue_304) (fun _ h9 => h9) rfl (by decide +kernel) rfl rfl (Nat.le_of_ble_eq_true rfl) dX5_readValue_116 (fun H locs hP hD hS => ?_)
      have hP : va_P (dC, dI) vwCl [(h0, .inr (5, [.ref r0_0, .int x_29, .int v0_2, .int v0_3])), (r0_0, .inr (10, [.ref r1_0, .ref r1_1, .int v1_2, .int (u_25.1 0), .int (u_25.1 1), .int (u_25.1 2), .int (u_25.1 3), .int (u_25.1 4)])), (r1_1, .inl (k2, 1200, .inl f2)), (r1_0, .inl (k3, 13, .inl f3))] H := hP
      have hD : va_D A [(h0, .inr (5, [.ref r0_0, .int x_29, .int v0_2, .int v0_3])), (r0_0, .inr (10, [.ref r1_0, .ref r1_1, .int v1_2, .int (u_25.1 0), .int (u_25.1 1), .int (u_25.1 2), .int (u_25.1 3), .int (u_25.1 4)])), (r1_1, .inl (k2, 1200, .inl f2)), (r1_0, .inl (k3, 13, .inl f3))] := hD
      refine lv_aload_n hx hb dX5_readValue_119 rfl (lv_at hl 3 rfl) ?_
      refine va_get (D := (dC, dI)) (ci := 5) (v := .ref r0_0) (C := RX5) (T := TX5) (N := 4) hx hb hts zn_X5_readValue_X5 hown hK hP 0 rfl rfl 0 (by decide) (hts (.fieldLink RX5 12 "ShortEnough$Parser" "words" "LShortEnough$Words;") zw_X5_readValue_299) (fun _ h9 => h9) rfl dX5_readValue_120 ?_
      have hPc := hP.sub (ws' := [(r0_0, .inr (10, [.ref r1_0, .ref r1_1, .int v1_2, .int (u_25.1 0), .int (u_25.1 1), .int (u_25.1 2), .int (u_25.1 3), .int (u_25.1 4)])), (r1_1, .inl (k2, 1200, .inl f2)), (r1_0, .inl (k3, 13, .inl f3))]) [1, 2, 3] rfl
      have hDc := hD.sub (ws' := [(r0_0, .inr (10, [.ref r1_0, .ref r1_1, .int v1_2, .int (u_25.1 0), .int (u_25.1 1), .int (u_25.1 2), .int (u_25.1 3), .int (u_25.1 4)])), (r1_1, .inl (k2, 1200, .inl f2)), (r1_0, .inl (k3, 13, .inl f3))]) [1, 2, 3] (by decide) rfl
      have hKc := hK.sub (tys' := [(k2, .byte), (k3, .int)]) [0, 1] rfl
      have hFc := va_free (wc := [(r0_0, .inr (10, [.ref r1_0, .ref r1_1, .int v1_2, .int (u_25.1 0), .int (u_25.1 1), .int (u_25.1 2), .int (u_25.1 3), .int (u_25.1 4)])), (r1_1, .inl (k2, 1200, .inl f2)), (r1_0, .inl (k3, 13, .inl f3))]) hD hS hA [1, 2, 3] rfl
      refine va_callv (va_runV (As := []) (rest := []) ⟨hx, hb, hml, hown, hts⟩ (zs_X10_advance l dC dI r0_0 r1_0 r1_1 v1_2 (u_25.1 0) (u_25.1 1) (u_25.1 2) (u_25.1 3) (u_25.1 4) k2 f2 k3 f3 (by omega) (by omega) (by omega) (by omega) (by omega) H.size) (cwV 0 hts gX5_readValue_X10_advance rfl rfl rfl (by decide +kernel) ⟨Nat.le_of_ble_eq_true rfl, Nat.le_of_ble_eq_true rfl⟩) ⟨fun a U g mk q => by obtain ⟨q0, q1, qP, qK, qD⟩ := q; exact ⟨q0, q1, qP, va_K.moved (u := U) (U := U.calling g mk a) (Vm.Alike.refl U.vm) qK, qD⟩, va_recv hKc hPc (ci := 10) (q0 := 0) rfl rfl, fun U hU hW => ⟨rfl, by rw [hU], by rw [hU]; exact hPc, va_K.moved hW.alike hKc, hDc.weaken (fun _ _ _ _ => trivial)⟩⟩ rfl rfl hl.1 rfl (lv_room (Nat.le_of_ble_eq_true rfl)) dX5_readValue_123 ⟨Nat.le_of_ble_eq_true rfl, Nat.le_of_ble_eq_true rfl⟩) hS (fun q _ h => hFc q h) hFc (fun u_36 t H1 locs ht hvm hw_37 hB hz1 hk1 hS => ?_)
      obtain ⟨hP1, hK1, hD1⟩ := hB
      rw [ht] at hP1
      have hK1 := va_K.moved hvm.symm hK1
      obtain ⟨hP, hD⟩ := va_join (wr := [(h0, .inr (5, [.ref r0_0, .int x_29, .int v0_2, .int v0_3]))]) (w1 := [(r0_0, .inr (10, [.ref r1_0, .ref r1_1, .int v1_2, .int (u_36.1 0), .int (u_36.1 1), .int (u_36.1 2), .int (u_36.1 3), .int (u_36.1 4)])), (r1_1, .inl (k2, 1200, .inl f2)), (r1_0, .inl (k3, 13, .inl f3))]) hP hD [1, 2, 3] [0] rfl rfl (by decide) (by decide) hk1 hFc hP1 hD1
      have hK := hK
      generalize H1 = H at hP hS ⊢
      have hP := hP.sub (ws' := [(h0, .inr (5, [.ref r0_0, .int x_29, .int v0_2, .int v0_3])), (r0_0, .inr (10, [.ref r1_0, .ref r1_1, .int v1_2, .int (u_36.1 0), .int (u_36.1 1), .int (u_36.1 2), .int (u_36.1 3), .int (u_36.1 4)])), (r1_1, .inl (k2, 1200, .inl f2)), (r1_0, .inl (k3, 13, .inl f3))]) [0, 1, 2, 3] rfl
      have hD := hD.sub (ws' := [(h0, .inr (5, [.ref r0_0, .int x_29, .int v0_2, .int v0_3])), (r0_0, .inr (10, [.ref r1_0, .ref r1_1, .int v1_2, .int (u_36.1 0), .int (u_36.1 1), .int (u_36.1 2), .int (u_36.1 3), .int (u_36.1 4)])), (r1_1, .inl (k2, 1200, .inl f2)), (r1_0, .inl (k3, 13, .inl f3))]) [0, 1, 2, 3] (by decide) rfl
      have hP : va_P (dC, dI) vwCl [(h0, .inr (5, [.ref r0_0, .int x_29, .int v0_2, .int v0_3])), (r0_0, .inr (10, [.ref r1_0, .ref r1_1, .int v1_2, .int (u_36.1 0), .int (u_36.1 1), .int (u_36.1 2), .int (u_36.1 3), .int (u_36.1 4)])), (r1_1, .inl (k2, 1200, .inl f2)), (r1_0, .inl (k3, 13, .inl f3))] H := hP
      have hD : va_D A [(h0, .inr (5, [.ref r0_0, .int x_29, .int v0_2, .int v0_3])), (r0_0, .inr (10, [.ref r1_0, .ref r1_1, .int v1_2, .int (u_36.1 0), .int (u_36.1 1), .int (u_36.1 2), .int (u_36.1 3), .int (u_36.1 4)])), (r1_1, .inl (k2, 1200, .inl f2)), (r1_0, .inl (k3, 13, .inl f3))] := hD
      obtain ⟨hmr_35_0, hmr_35_1, hmr_35_2, hmr_35_3, -⟩ := hw_37
      refine lv_iconst (v := 1) hx hb dX5_readValue_126 (by decide +kernel) ?_
      have hP9 := hP.sub (ws' := [(h0, .inr (5, [.ref r0_0, .int x_29, .int v0_2, .int v0_3])), (r0_0, .inr (10, [.ref r1_0, .ref r1_1, .int v1_2, .int (u_36.1 0), .int (u_36.1 1), .int (u_36.1 2), .int (u_36.1 3), .int (u_36.1 4)])), (r1_1, .inl (k2, 1200, .inl f2)), (r1_0, .inl (k3, 13, .inl f3))]) [0, 1, 2, 3] rfl
      have hD9 := hD.sub (ws' := [(h0, .inr (5, [.ref r0_0, .int x_29, .int v0_2, .int v0_3])), (r0_0, .inr (10, [.ref r1_0, .ref r1_1, .int v1_2, .int (u_36.1 0), .int (u_36.1 1), .int (u_36.1 2), .int (u_36.1 3), .int (u_36.1 4)])), (r1_1, .inl (k2, 1200, .inl f2)), (r1_0, .inl (k3, 13, .inl f3))]) [0, 1, 2, 3] (by decide) rfl
      have hK9 := hK.sub (tys' := [(k2, .byte), (k3, .int)]) [0, 1] rfl
      rw [← hQ]
      exact W.zret (v := 1) hx hb hr rfl (fun t ht hW => ⟨⟨1, ((fun k => ([x_29, v0_2, v0_3, (u_36.1 0), (u_36.1 1), (u_36.1 2), (u_36.1 3), (u_36.1 4)] : List Int32).getD k 0), (fun k => ([] : List (Nat → Int32)).getD k (fun _ => 0)), (fun k => ([] : List (Nat → Int64)).getD k (fun _ => 0))), rfl, ⟨(show (0 : Int) ≤ (1 : Int32).toInt ∧ (1 : Int32).toInt ≤ 1 by decide +kernel), (show (0 : Int) ≤ ((u_36.1 0) : Int32).toInt ∧ ((u_36.1 0) : Int32).toInt ≤ 1200 by omega), (show (0 : Int) ≤ ((u_36.1 1) : Int32).toInt ∧ ((u_36.1 1) : Int32).toInt ≤ 5 by omega), (show (0 : Int) ≤ ((u_36.1 2) : Int32).toInt ∧ ((u_36.1 2) : Int32).toInt ≤ 1200 by omega), (show (-1 : Int) ≤ ((u_36.1 4) : Int32).toInt ∧ ((u_36.1 4) : Int32).toInt ≤ 12 by omega), trivial⟩, by rw [ht]; exact hP9, va_K.moved hW.alike hK9, hD9⟩, hS.F ht⟩) hS.2.2 dX5_readValue_127
    have oc_34 := zk_nle rfl rfl c_34
    refine lv_aload_n hx hb dX5_readValue_105 rfl (lv_at hl 3 rfl) ?_
    refine lv_iconst (v := 2) hx hb dX5_readValue_106 (by decide +kernel) ?_
    refine lv_iload hx hb dX5_readValue_107 (lv_at hl 2 rfl) ?_
    have hPc := hP.sub (ws' := [(h0, .inr (5, [.ref r0_0, .int v0_1, .int v0_2, .int v0_3]))]) [0] rfl
    have hDc := hD.sub (ws' := [(h0, .inr (5, [.ref r0_0, .int v0_1, .int v0_2, .int v0_3]))]) [0] (by decide) rfl
    have hKc := hK.sub (tys' := []) [] rfl
    have hFc := va_free (wc := [(h0, .inr (5, [.ref r0_0, .int v0_1, .int v0_2, .int v0_3]))]) hD hS hA [0] rfl
    refine va_calli (va_runV (As := [.int 2, .int v1_5]) (rest := []) ⟨hx, hb, hml, hown, hts⟩ (zs_X5_stopAt l dC dI h0 2 v1_5 r0_0 v0_1 v0_2 v0_3  H.size) (cwV 2 hts gX5_readValue_X5_stopAt rfl rfl rfl (by decide +kernel) ⟨Nat.le_of_ble_eq_true rfl, Nat.le_of_ble_eq_true rfl⟩) ⟨fun a U g mk q => by obtain ⟨q0, q1, qP, qK, qD⟩ := q; exact ⟨q0, q1, qP, va_K.moved (u := U) (U := U.calling g mk a) (Vm.Alike.refl U.vm) qK, qD⟩, va_recv hKc hPc (ci := 5) (q0 := 0) rfl rfl, fun U hU hW => ⟨rfl, by rw [hU], by rw [hU]; exact hPc, va_K.moved hW.alike hKc, hDc.weaken (fun _ _ _ _ => trivial)⟩⟩ rfl rfl hl.1 rfl (lv_room (Nat.le_of_ble_eq_true rfl)) dX5_readValue_109 ⟨Nat.le_of_ble_eq_true rfl, Nat.le_of_ble_eq_true rfl⟩) hS (fun q _ h => hFc q h) hFc (fun r_38 u_39 t H1 locs ht hvm hw_40 hB hz1 hk1 hS => ?_)
    obtain ⟨hP1, hK1, hD1⟩ := hB
    rw [ht] at hP1
    have hK1 := va_K.moved hvm.symm hK1
    obtain ⟨hP, hD⟩ := va_join (wr := [(r0_0, .inr (10, [.ref r1_0, .ref r1_1, .int v1_2, .int (u_25.1 0), .int (u_25.1 1), .int (u_25.1 2), .int (u_25.1 3), .int (u_25.1 4)])), (r1_1, .inl (k2, 1200, .inl f2)), (r1_0, .inl (k3, 13, .inl f3))]) (w1 := [(h0, .inr (5, [.ref r0_0, .int v0_1, .int (u_39.1 0), .int (u_39.1 1)]))]) hP hD [0] [1, 2, 3] rfl rfl (by decide) (by decide) hk1 hFc hP1 hD1
    have hK := hK
    generalize H1 = H at hP hS ⊢
    have hP := hP.sub (ws' := [(h0, .inr (5, [.ref r0_0, .int v0_1, .int (u_39.1 0), .int (u_39.1 1)])), (r0_0, .inr (10, [.ref r1_0, .ref r1_1, .int v1_2, .int (u_25.1 0), .int (u_25.1 1), .int (u_25.1 2), .int (u_25.1 3), .int (u_25.1 4)])), (r1_1, .inl (k2, 1200, .inl f2)), (r1_0, .inl (k3, 13, .inl f3))]) [3, 0, 1, 2] rfl
    have hD := hD.sub (ws' := [(h0, .inr (5, [.ref r0_0, .int v0_1, .int (u_39.1 0), .int (u_39.1 1)])), (r0_0, .inr (10, [.ref r1_0, .ref r1_1, .int v1_2, .int (u_25.1 0), .int (u_25.1 1), .int (u_25.1 2), .int (u_25.1 3), .int (u_25.1 4)])), (r1_1, .inl (k2, 1200, .inl f2)), (r1_0, .inl (k3, 13, .inl f3))]) [3, 0, 1, 2] (by decide) rfl
    have hP : va_P (dC, dI) vwCl [(h0, .inr (5, [.ref r0_0, .int v0_1, .int (u_39.1 0), .int (u_39.1 1)])), (r0_0, .inr (10, [.ref r1_0, .ref r1_1, .int v1_2, .int (u_25.1 0), .int (u_25.1 1), .int (u_25.1 2), .int (u_25.1 3), .int (u_25.1 4)])), (r1_1, .inl (k2, 1200, .inl f2)), (r1_0, .inl (k3, 13, .inl f3))] H := hP
    have hD : va_D A [(h0, .inr (5, [.ref r0_0, .int v0_1, .int (u_39.1 0), .int (u_39.1 1)])), (r0_0, .inr (10, [.ref r1_0, .ref r1_1, .int v1_2, .int (u_25.1 0), .int (u_25.1 1), .int (u_25.1 2), .int (u_25.1 3), .int (u_25.1 4)])), (r1_1, .inl (k2, 1200, .inl f2)), (r1_0, .inl (k3, 13, .inl f3))] := hD
    obtain ⟨hr_38, -⟩ := hw_40
    have hP9 := hP.sub (ws' := [(h0, .inr (5, [.ref r0_0, .int v0_1, .int (u_39.1 0), .int (u_39.1 1)])), (r0_0, .inr (10, [.ref r1_0, .ref r1_1, .int v1_2, .int (u_25.1 0), .int (u_25.1 1), .int (u_25.1 2), .int (u_25.1 3), .int (u_25.1 4)])), (r1_1, .inl (k2, 1200, .inl f2)), (r1_0, .inl (k3, 13, .inl f3))]) [0, 1, 2, 3] rfl
    have hD9 := hD.sub (ws' := [(h0, .inr (5, [.ref r0_0, .int v0_1, .int (u_39.1 0), .int (u_39.1 1)])), (r0_0, .inr (10, [.ref r1_0, .ref r1_1, .int v1_2, .int (u_25.1 0), .int (u_25.1 1), .int (u_25.1 2), .int (u_25.1 3), .int (u_25.1 4)])), (r1_1, .inl (k2, 1200, .inl f2)), (r1_0, .inl (k3, 13, .inl f3))]) [0, 1, 2, 3] (by decide) rfl
    have hK9 := hK.sub (tys' := [(k2, .byte), (k3, .int)]) [0, 1] rfl
    rw [← hQ]
    exact W.zret (v := r_38) hx hb hr (zn_b (by omega)) (fun t ht hW => ⟨⟨r_38, ((fun k => ([v0_1, (u_39.1 0), (u_39.1 1), (u_25.1 0), (u_25.1 1), (u_25.1 2), (u_25.1 3), (u_25.1 4)] : List Int32).getD k 0), (fun k => ([] : List (Nat → Int32)).getD k (fun _ => 0)), (fun k => ([] : List (Nat → Int64)).getD k (fun _ => 0))), rfl, ⟨(show (0 : Int) ≤ (r_38 : Int32).toInt ∧ (r_38 : Int32).toInt ≤ 1 by omega), (show (0 : Int) ≤ ((u_25.1 0) : Int32).toInt ∧ ((u_25.1 0) : Int32).toInt ≤ 1200 by omega), (show (0 : Int) ≤ ((u_25.1 1) : Int32).toInt ∧ ((u_25.1 1) : Int32).toInt ≤ 5 by omega), (show (0 : Int) ≤ ((u_25.1 2) : Int32).toInt ∧ ((u_25.1 2) : Int32).toInt ≤ 1200 by omega), (show (-1 : Int) ≤ ((u_25.1 4) : Int32).toInt ∧ ((u_25.1 4) : Int32).toInt ≤ 12 by omega), trivial⟩, by rw [ht]; exact hP9, va_K.moved hW.alike hK9, hD9⟩, hS.F ht⟩) hS.2.2 dX5_readValue_112
  have oc_27 := zk_ne rfl (by decide +kernel : (2 : Int32).toInt = 2) c_27
  refine lv_aload_n hx hb dX5_readValue_55 rfl (lv_at hl 2 rfl) ?_
  refine lv_iconst (v := 1) hx hb dX5_readValue_56 (by decide +kernel) ?_
  refine lv_aload_n hx hb dX5_readValue_57 rfl (lv_at hl 2 rfl) ?_
  refine va_get (D := (dC, dI)) (ci := 5) (v := .ref r0_0) (C := RX5) (T := TX5) (N := 4) hx hb hts zn_X5_readValue_X5 hown hK hP 0 rfl rfl 0 (by decide) (hts (.fieldLink RX5 12 "ShortEnough$Parser" "words" "LShortEnough$Words;") zw_X5_readValue_299) (fun _ h9 => h9) rfl dX5_readValue_58 ?_
  refine va_get (D := (dC, dI)) (ci := 10) (v := .int (u_25.1 2)) (C := RX10) (T := TX10) (N := 8) hx hb hts zn_X5_readValue_X10 hown hK hP 1 rfl rfl 5 (by decide) (hts (.fieldLink RX5 64 "ShortEnough$Words" "start" "I") zw_X5_readValue_301) (fun _ h9 => h9) rfl dX5_readValue_61 ?_
  have hPc := hP.sub (ws' := [(h0, .inr (5, [.ref r0_0, .int v0_1, .int v0_2, .int v0_3]))]) [0] rfl
  have hDc := hD.sub (ws' := [(h0, .inr (5, [.ref r0_0, .int v0_1, .int v0_2, .int v0_3]))]) [0] (by decide) rfl
  have hKc := hK.sub (tys' := []) [] rfl
  have hFc := va_free (wc := [(h0, .inr (5, [.ref r0_0, .int v0_1, .int v0_2, .int v0_3]))]) hD hS hA [0] rfl
  refine va_calli (va_runV (As := [.int 1, .int (u_25.1 2)]) (rest := []) ⟨hx, hb, hml, hown, hts⟩ (zs_X5_stopAt l dC dI h0 1 (u_25.1 2) r0_0 v0_1 v0_2 v0_3  H.size) (cwV 2 hts gX5_readValue_X5_stopAt rfl rfl rfl (by decide +kernel) ⟨Nat.le_of_ble_eq_true rfl, Nat.le_of_ble_eq_true rfl⟩) ⟨fun a U g mk q => by obtain ⟨q0, q1, qP, qK, qD⟩ := q; exact ⟨q0, q1, qP, va_K.moved (u := U) (U := U.calling g mk a) (Vm.Alike.refl U.vm) qK, qD⟩, va_recv hKc hPc (ci := 5) (q0 := 0) rfl rfl, fun U hU hW => ⟨rfl, by rw [hU], by rw [hU]; exact hPc, va_K.moved hW.alike hKc, hDc.weaken (fun _ _ _ _ => trivial)⟩⟩ rfl rfl hl.1 rfl (lv_room (Nat.le_of_ble_eq_true rfl)) dX5_readValue_64 ⟨Nat.le_of_ble_eq_true rfl, Nat.le_of_ble_eq_true rfl⟩) hS (fun q _ h => hFc q h) hFc (fun r_41 u_42 t H1 locs ht hvm hw_43 hB hz1 hk1 hS => ?_)
  obtain ⟨hP1, hK1, hD1⟩ := hB
  rw [ht] at hP1
  have hK1 := va_K.moved hvm.symm hK1
  obtain ⟨hP, hD⟩ := va_join (wr := [(r0_0, .inr (10, [.ref r1_0, .ref r1_1, .int v1_2, .int (u_25.1 0), .int (u_25.1 1), .int (u_25.1 2), .int (u_25.1 3), .int (u_25.1 4)])), (r1_1, .inl (k2, 1200, .inl f2)), (r1_0, .inl (k3, 13, .inl f3))]) (w1 := [(h0, .inr (5, [.ref r0_0, .int v0_1, .int (u_42.1 0), .int (u_42.1 1)]))]) hP hD [0] [1, 2, 3] rfl rfl (by decide) (by decide) hk1 hFc hP1 hD1
  have hK := hK
  generalize H1 = H at hP hS ⊢
  have hP := hP.sub (ws' := [(h0, .inr (5, [.ref r0_0, .int v0_1, .int (u_42.1 0), .int (u_42.1 1)])), (r0_0, .inr (10, [.ref r1_0, .ref r1_1, .int v1_2, .int (u_25.1 0), .int (u_25.1 1), .int (u_25.1 2), .int (u_25.1 3), .int (u_25.1 4)])), (r1_1, .inl (k2, 1200, .inl f2)), (r1_0, .inl (k3, 13, .inl f3))]) [3, 0, 1, 2] rfl
  have hD := hD.sub (ws' := [(h0, .inr (5, [.ref r0_0, .int v0_1, .int (u_42.1 0), .int (u_42.1 1)])), (r0_0, .inr (10, [.ref r1_0, .ref r1_1, .int v1_2, .int (u_25.1 0), .int (u_25.1 1), .int (u_25.1 2), .int (u_25.1 3), .int (u_25.1 4)])), (r1_1, .inl (k2, 1200, .inl f2)), (r1_0, .inl (k3, 13, .inl f3))]) [3, 0, 1, 2] (by decide) rfl
  have hP : va_P (dC, dI) vwCl [(h0, .inr (5, [.ref r0_0, .int v0_1, .int (u_42.1 0), .int (u_42.1 1)])), (r0_0, .inr (10, [.ref r1_0, .ref r1_1, .int v1_2, .int (u_25.1 0), .int (u_25.1 1), .int (u_25.1 2), .int (u_25.1 3), .int (u_25.1 4)])), (r1_1, .inl (k2, 1200, .inl f2)), (r1_0, .inl (k3, 13, .inl f3))] H := hP
  have hD : va_D A [(h0, .inr (5, [.ref r0_0, .int v0_1, .int (u_42.1 0), .int (u_42.1 1)])), (r0_0, .inr (10, [.ref r1_0, .ref r1_1, .int v1_2, .int (u_25.1 0), .int (u_25.1 1), .int (u_25.1 2), .int (u_25.1 3), .int (u_25.1 4)])), (r1_1, .inl (k2, 1200, .inl f2)), (r1_0, .inl (k3, 13, .inl f3))] := hD
  obtain ⟨hr_41, -⟩ := hw_43
  have hP9 := hP.sub (ws' := [(h0, .inr (5, [.ref r0_0, .int v0_1, .int (u_42.1 0), .int (u_42.1 1)])), (r0_0, .inr (10, [.ref r1_0, .ref r1_1, .int v1_2, .int (u_25.1 0), .int (u_25.1 1), .int (u_25.1 2), .int (u_25.1 3), .int (u_25.1 4)])), (r1_1, .inl (k2, 1200, .inl f2)), (r1_0, .inl (k3, 13, .inl f3))]) [0, 1, 2, 3] rfl
  have hD9 := hD.sub (ws' := [(h0, .inr (5, [.ref r0_0, .int v0_1, .int (u_42.1 0), .int (u_42.1 1)])), (r0_0, .inr (10, [.ref r1_0, .ref r1_1, .int v1_2, .int (u_25.1 0), .int (u_25.1 1), .int (u_25.1 2), .int (u_25.1 3), .int (u_25.1 4)])), (r1_1, .inl (k2, 1200, .inl f2)), (r1_0, .inl (k3, 13, .inl f3))]) [0, 1, 2, 3] (by decide) rfl
  have hK9 := hK.sub (tys' := [(k2, .byte), (k3, .int)]) [0, 1] rfl
  rw [← hQ]
  exact W.zret (v := r_41) hx hb hr (zn_b (by omega)) (fun t ht hW => ⟨⟨r_41, ((fun k => ([v0_1, (u_42.1 0), (u_42.1 1), (u_25.1 0), (u_25.1 1), (u_25.1 2), (u_25.1 3), (u_25.1 4)] : List Int32).getD k 0), (fun k => ([] : List (Nat → Int32)).getD k (fun _ => 0)), (fun k => ([] : List (Nat → Int64)).getD k (fun _ => 0))), rfl, ⟨(show (0 : Int) ≤ (r_41 : Int32).toInt ∧ (r_41 : Int32).toInt ≤ 1 by omega), (show (0 : Int) ≤ ((u_25.1 0) : Int32).toInt ∧ ((u_25.1 0) : Int32).toInt ≤ 1200 by omega), (show (0 : Int) ≤ ((u_25.1 1) : Int32).toInt ∧ ((u_25.1 1) : Int32).toInt ≤ 5 by omega), (show (0 : Int) ≤ ((u_25.1 2) : Int32).toInt ∧ ((u_25.1 2) : Int32).toInt ≤ 1200 by omega), (show (-1 : Int) ≤ ((u_25.1 4) : Int32).toInt ∧ ((u_25.1 4) : Int32).toInt ≤ 12 by omega), trivial⟩, by rw [ht]; exact hP9, va_K.moved hW.alike hK9, hD9⟩, hS.F ht⟩) hS.2.2 dX5_readValue_67
set_option maxHeartbeats 4000000 in
set_option maxRecDepth 100000 in
theorem zs_X5_readNewName (l : Launch) (dC : Nat → ClassId) (dI : Nat → Nat → Nat) (h0 : Nat) (h1 : Nat) (r0_0 : Nat) (v0_1 : Int32) (v0_2 : Int32) (v0_3 : Int32) (r1_0 : Nat) (r1_1 : Nat) (v1_2 : Int32) (v1_3 : Int32) (v1_4 : Int32) (v1_5 : Int32) (v1_6 : Int32) (v1_7 : Int32) (v2_0 : Int32) (r2_1 : Nat) (r2_2 : Nat) (r2_3 : Nat) (r2_4 : Nat) (v2_5 : Int32) (r2_6 : Nat) (r2_7 : Nat) (r2_8 : Nat) (k3 : Nat) (f3 : Nat → Int32) (v4_0 : Int32) (v4_1 : Int32) (r4_2 : Nat) (r4_3 : Nat) (r4_4 : Nat) (r4_5 : Nat) (r4_6 : Nat) (r4_7 : Nat) (r4_8 : Nat) (r4_9 : Nat) (k5 : Nat) (f5 : Nat → Int32) (k6 : Nat) (f6 : Nat → Int32) (k7 : Nat) (f7 : Nat → Int32) (hq_v1_2 : (0 : Int) ≤ v1_2.toInt ∧ v1_2.toInt ≤ 1200) (hq_v1_3 : (0 : Int) ≤ v1_3.toInt ∧ v1_3.toInt ≤ 1200) (hq_v1_4 : (0 : Int) ≤ v1_4.toInt ∧ v1_4.toInt ≤ 5) (hq_v1_5 : (0 : Int) ≤ v1_5.toInt ∧ v1_5.toInt ≤ 1200) (hq_v1_7 : (-1 : Int) ≤ v1_7.toInt ∧ v1_7.toInt ≤ 12) (hq_v2_0 : (0 : Int) ≤ v2_0.toInt ∧ v2_0.toInt ≤ 4) (hq_v4_0 : (0 : Int) ≤ v4_0.toInt ∧ v4_0.toInt ≤ 14) (sz : Nat) : Met l yX5_readNewName wsX5_readNewName ({ frames := 2, cells := 0, slots := 0, locals := 46 }) (va_Pc [.ref h0, .ref h1] (fun U => U.heap.size = sz ∧ va_P (dC, dI) vwCl [(h0, .inr (5, [.ref r0_0, .int v0_1, .int v0_2, .int v0_3])), (r0_0, .inr (10, [.ref r1_0, .ref r1_1, .int v1_2, .int v1_3, .int v1_4, .int v1_5, .int v1_6, .int v1_7])), (h1, .inr (9, [.int v2_0, .ref r2_1, .ref r2_2, .ref r2_3, .ref r2_4, .int v2_5, .ref r2_6, .ref r2_7, .ref r2_8])), (r2_1, .inl (k3, 4, .inl f3)), (r2_6, .inr (4, [.int v4_0, .int v4_1, .ref r4_2, .ref r4_3, .ref r4_4, .ref r4_5, .ref r4_6, .ref r4_7, .ref r4_8, .ref r4_9])), (r4_2, .inl (k5, 14, .inl f5)), (r1_1, .inl (k6, 1200, .inl f6)), (r1_0, .inl (k7, 13, .inl f7))] U.heap ∧ va_K (dC, dI) vwCl [(k3, .int), (k5, .int), (k6, .byte), (k7, .int)] U ∧ va_D (fun _ => True) [(h0, .inr (5, [.ref r0_0, .int v0_1, .int v0_2, .int v0_3])), (r0_0, .inr (10, [.ref r1_0, .ref r1_1, .int v1_2, .int v1_3, .int v1_4, .int v1_5, .int v1_6, .int v1_7])), (h1, .inr (9, [.int v2_0, .ref r2_1, .ref r2_2, .ref r2_3, .ref r2_4, .int v2_5, .ref r2_6, .ref r2_7, .ref r2_8])), (r2_1, .inl (k3, 4, .inl f3)), (r2_6, .inr (4, [.int v4_0, .int v4_1, .ref r4_2, .ref r4_3, .ref r4_4, .ref r4_5, .ref r4_6, .ref r4_7, .ref r4_8, .ref r4_9])), (r4_2, .inl (k5, 14, .inl f5)), (r1_1, .inl (k6, 1200, .inl f6)), (r1_0, .inl (k7, 13, .inl f7))])) (va_Qi (fun (r : Int32) (u : zV) => ((0 : Int) ≤ r.toInt ∧ r.toInt ≤ 1) ∧ ((0 : Int) ≤ (u.1 3).toInt ∧ (u.1 3).toInt ≤ 1200) ∧ ((0 : Int) ≤ (u.1 4).toInt ∧ (u.1 4).toInt ≤ 5) ∧ ((0 : Int) ≤ (u.1 5).toInt ∧ (u.1 5).toInt ≤ 1200) ∧ ((-1 : Int) ≤ (u.1 7).toInt ∧ (u.1 7).toInt ≤ 12) ∧ True) (fun u t => va_P (dC, dI) vwCl [(h0, .inr (5, [.ref r0_0, .int (u.1 0), .int (u.1 1), .int (u.1 2)])), (r0_0, .inr (10, [.ref r1_0, .ref r1_1, .int v1_2, .int (u.1 3), .int (u.1 4), .int (u.1 5), .int (u.1 6), .int (u.1 7)])), (h1, .inr (9, [.int v2_0, .ref r2_1, .ref r2_2, .ref r2_3, .ref r2_4, .int v2_5, .ref r2_6, .ref r2_7, .ref r2_8])), (r2_1, .inl (k3, 4, .inl f3)), (r2_6, .inr (4, [.int v4_0, .int v4_1, .ref r4_2, .ref r4_3, .ref r4_4, .ref r4_5, .ref r4_6, .ref r4_7, .ref r4_8, .ref r4_9])), (r4_2, .inl (k5, 14, .inl f5)), (r1_1, .inl (k6, 1200, .inl f6)), (r1_0, .inl (k7, 13, .inl f7))] t.heap ∧ va_K (dC, dI) vwCl [(k3, .int), (k5, .int), (k6, .byte), (k7, .int)] t ∧ va_D (va_A [(h0, .inr (5, [.ref r0_0, .int v0_1, .int v0_2, .int v0_3])), (r0_0, .inr (10, [.ref r1_0, .ref r1_1, .int v1_2, .int v1_3, .int v1_4, .int v1_5, .int v1_6, .int v1_7])), (h1, .inr (9, [.int v2_0, .ref r2_1, .ref r2_2, .ref r2_3, .ref r2_4, .int v2_5, .ref r2_6, .ref r2_7, .ref r2_8])), (r2_1, .inl (k3, 4, .inl f3)), (r2_6, .inr (4, [.int v4_0, .int v4_1, .ref r4_2, .ref r4_3, .ref r4_4, .ref r4_5, .ref r4_6, .ref r4_7, .ref r4_8, .ref r4_9])), (r4_2, .inl (k5, 14, .inl f5)), (r1_1, .inl (k6, 1200, .inl f6)), (r1_0, .inl (k7, 13, .inl f7))] sz) [(h0, .inr (5, [.ref r0_0, .int (u.1 0), .int (u.1 1), .int (u.1 2)])), (r0_0, .inr (10, [.ref r1_0, .ref r1_1, .int v1_2, .int (u.1 3), .int (u.1 4), .int (u.1 5), .int (u.1 6), .int (u.1 7)])), (h1, .inr (9, [.int v2_0, .ref r2_1, .ref r2_2, .ref r2_3, .ref r2_4, .int v2_5, .ref r2_6, .ref r2_7, .ref r2_8])), (r2_1, .inl (k3, 4, .inl f3)), (r2_6, .inr (4, [.int v4_0, .int v4_1, .ref r4_2, .ref r4_3, .ref r4_4, .ref r4_5, .ref r4_6, .ref r4_7, .ref r4_8, .ref r4_9])), (r4_2, .inl (k5, 14, .inl f5)), (r1_1, .inl (k6, 1200, .inl f6)), (r1_0, .inl (k7, 13, .inl f7))]) (va_A [(h0, .inr (5, [.ref r0_0, .int v0_1, .int v0_2, .int v0_3])), (r0_0, .inr (10, [.ref r1_0, .ref r1_1, .int v1_2, .int v1_3, .int v1_4, .int v1_5, .int v1_6, .int v1_7])), (h1, .inr (9, [.int v2_0, .ref r2_1, .ref r2_2, .ref r2_3, .ref r2_4, .int v2_5, .ref r2_6, .ref r2_7, .ref r2_8])), (r2_1, .inl (k3, 4, .inl f3)), (r2_6, .inr (4, [.int v4_0, .int v4_1, .ref r4_2, .ref r4_3, .ref r4_4, .ref r4_5, .ref r4_6, .ref r4_7, .ref r4_8, .ref r4_9])), (r4_2, .inl (k5, 14, .inl f5)), (r1_1, .inl (k6, 1200, .inl f6)), (r1_0, .inl (k7, 13, .inl f7))] sz)) 0 0 (va_A [(h0, .inr (5, [.ref r0_0, .int v0_1, .int v0_2, .int v0_3])), (r0_0, .inr (10, [.ref r1_0, .ref r1_1, .int v1_2, .int v1_3, .int v1_4, .int v1_5, .int v1_6, .int v1_7])), (h1, .inr (9, [.int v2_0, .ref r2_1, .ref r2_2, .ref r2_3, .ref r2_4, .int v2_5, .ref r2_6, .ref r2_7, .ref r2_8])), (r2_1, .inl (k3, 4, .inl f3)), (r2_6, .inr (4, [.int v4_0, .int v4_1, .ref r4_2, .ref r4_3, .ref r4_4, .ref r4_5, .ref r4_6, .ref r4_7, .ref r4_8, .ref r4_9])), (r4_2, .inl (k5, 14, .inl f5)), (r1_1, .inl (k6, 1200, .inl f6)), (r1_0, .inl (k7, 13, .inl f7))] sz) := by
  refine Met.ofW (cc := cX5_readNewName) (maxL := 3) (ret := (some .boolean)) (by decide +kernel) rfl ?_
  intro p e s m args below meth c s₁ B hml hv
  obtain ⟨rfl, hsz, hP, hK, hD0⟩ := hv
  have hx := B.exec
  have hb := B.bytes
  have hr := B.returns
  have hts := atoms_spec (ws := wsX5_readNewName) B.pre
  have hown : s.vm.findClass RX5 = some m.cls := findClass_of_methodNamed B.named
  have hlocks := B.notSynchronized
  subst hsz
  have hD := hD0.self (sz := s.heap.size)
  generalize hAe : va_A [(h0, .inr (5, [.ref r0_0, .int v0_1, .int v0_2, .int v0_3])), (r0_0, .inr (10, [.ref r1_0, .ref r1_1, .int v1_2, .int v1_3, .int v1_4, .int v1_5, .int v1_6, .int v1_7])), (h1, .inr (9, [.int v2_0, .ref r2_1, .ref r2_2, .ref r2_3, .ref r2_4, .int v2_5, .ref r2_6, .ref r2_7, .ref r2_8])), (r2_1, .inl (k3, 4, .inl f3)), (r2_6, .inr (4, [.int v4_0, .int v4_1, .ref r4_2, .ref r4_3, .ref r4_4, .ref r4_5, .ref r4_6, .ref r4_7, .ref r4_8, .ref r4_9])), (r4_2, .inl (k5, 14, .inl f5)), (r1_1, .inl (k6, 1200, .inl f6)), (r1_0, .inl (k7, 13, .inl f7))] s.heap.size = A at hD ⊢
  have hA : ∀ q : Nat, s.heap.size ≤ q → A q := fun q h => by rw [← hAe]; exact Or.inr h
  have hS : va_S A s.heap s.heap [] := va_S.rf
  have hP : va_P (dC, dI) vwCl [(h0, .inr (5, [.ref r0_0, .int v0_1, .int v0_2, .int v0_3])), (r0_0, .inr (10, [.ref r1_0, .ref r1_1, .int v1_2, .int v1_3, .int v1_4, .int v1_5, .int v1_6, .int v1_7])), (h1, .inr (9, [.int v2_0, .ref r2_1, .ref r2_2, .ref r2_3, .ref r2_4, .int v2_5, .ref r2_6, .ref r2_7, .ref r2_8])), (r2_1, .inl (k3, 4, .inl f3)), (r2_6, .inr (4, [.int v4_0, .int v4_1, .ref r4_2, .ref r4_3, .ref r4_4, .ref r4_5, .ref r4_6, .ref r4_7, .ref r4_8, .ref r4_9])), (r4_2, .inl (k5, 14, .inl f5)), (r1_1, .inl (k6, 1200, .inl f6)), (r1_0, .inl (k7, 13, .inl f7))] s.heap := hP
  have hl := lv_entry ([.ref h0, .ref h1]) (n := 3) (Nat.le_of_ble_eq_true rfl)
  rw [lg_entry_eq]
  generalize (lg_sl ([.ref h0, .ref h1]) ++ List.replicate (3 - (lg_sl ([.ref h0, .ref h1])).length) Slot.unset).toArray = ls at hl ⊢
  have hl : lv_has ls 3 [(0, .ref h0), (1, .ref h1)] := hl
  generalize hQ : MQ below (va_Qi (fun (r : Int32) (u : zV) => ((0 : Int) ≤ r.toInt ∧ r.toInt ≤ 1) ∧ ((0 : Int) ≤ (u.1 3).toInt ∧ (u.1 3).toInt ≤ 1200) ∧ ((0 : Int) ≤ (u.1 4).toInt ∧ (u.1 4).toInt ≤ 5) ∧ ((0 : Int) ≤ (u.1 5).toInt ∧ (u.1 5).toInt ≤ 1200) ∧ ((-1 : Int) ≤ (u.1 7).toInt ∧ (u.1 7).toInt ≤ 12) ∧ True) (fun u t => va_P (dC, dI) vwCl [(h0, .inr (5, [.ref r0_0, .int (u.1 0), .int (u.1 1), .int (u.1 2)])), (r0_0, .inr (10, [.ref r1_0, .ref r1_1, .int v1_2, .int (u.1 3), .int (u.1 4), .int (u.1 5), .int (u.1 6), .int (u.1 7)])), (h1, .inr (9, [.int v2_0, .ref r2_1, .ref r2_2, .ref r2_3, .ref r2_4, .int v2_5, .ref r2_6, .ref r2_7, .ref r2_8])), (r2_1, .inl (k3, 4, .inl f3)), (r2_6, .inr (4, [.int v4_0, .int v4_1, .ref r4_2, .ref r4_3, .ref r4_4, .ref r4_5, .ref r4_6, .ref r4_7, .ref r4_8, .ref r4_9])), (r4_2, .inl (k5, 14, .inl f5)), (r1_1, .inl (k6, 1200, .inl f6)), (r1_0, .inl (k7, 13, .inl f7))] t.heap ∧ va_K (dC, dI) vwCl [(k3, .int), (k5, .int), (k6, .byte), (k7, .int)] t ∧ va_D A [(h0, .inr (5, [.ref r0_0, .int (u.1 0), .int (u.1 1), .int (u.1 2)])), (r0_0, .inr (10, [.ref r1_0, .ref r1_1, .int v1_2, .int (u.1 3), .int (u.1 4), .int (u.1 5), .int (u.1 6), .int (u.1 7)])), (h1, .inr (9, [.int v2_0, .ref r2_1, .ref r2_2, .ref r2_3, .ref r2_4, .int v2_5, .ref r2_6, .ref r2_7, .ref r2_8])), (r2_1, .inl (k3, 4, .inl f3)), (r2_6, .inr (4, [.int v4_0, .int v4_1, .ref r4_2, .ref r4_3, .ref r4_4, .ref r4_5, .ref r4_6, .ref r4_7, .ref r4_8, .ref r4_9])), (r4_2, .inl (k5, 14, .inl f5)), (r1_1, .inl (k6, 1200, .inl f6)), (r1_0, .inl (k7, 13, .inl f7))]) A) ([.ref h0, .ref h1] : List Value).toArray s 0 0 A = Q
  refine lv_aload_n hx hb dX5_readNewName_0 rfl (lv_at hl 0 rfl) ?_
  refine va_get (D := (dC, dI)) (ci := 5) (v := .ref r0_0) (C := RX5) (T := TX5) (N := 4) hx hb hts zn_X5_readNewName_X5 hown hK hP 0 rfl rfl 0 (by decide) (hts (.fieldLink RX5 12 "ShortEnough$Parser" "words" "LShortEnough$Words;") zw_X5_readNewName_306) (fun _ h9 => h9) rfl dX5_readNewName_1 ?_
  have hPc := hP.sub (ws' := [(r0_0, .inr (10, [.ref r1_0, .ref r1_1, .int v1_2, .int v1_3, .int v1_4, .int v1_5, .int v1_6, .int v1_7]))]) [1] rfl
  have hDc := hD.sub (ws' := [(r0_0, .inr (10, [.ref r1_0, .ref r1_1, .int v1_2, .int v1_3, .int v1_4, .int v1_5, .int v1_6, .int v1_7]))]) [1] (by decide) rfl
  have hKc := hK.sub (tys' := []) [] rfl
  have hFc := va_free (wc := [(r0_0, .inr (10, [.ref r1_0, .ref r1_1, .int v1_2, .int v1_3, .int v1_4, .int v1_5, .int v1_6, .int v1_7]))]) hD hS hA [1] rfl
  refine va_calli (va_runV (As := []) (rest := []) ⟨hx, hb, hml, hown, hts⟩ (zs_X10_isName l dC dI r0_0 r1_0 r1_1 v1_2 v1_3 v1_4 v1_5 v1_6 v1_7 (by omega) (by omega) (by omega) (by omega) (by omega) s.heap.size) (cwV 0 hts gX5_readNewName_X10_isName rfl rfl rfl (by decide +kernel) ⟨Nat.le_of_ble_eq_true rfl, Nat.le_of_ble_eq_true rfl⟩) ⟨fun a U g mk q => by obtain ⟨q0, q1, qP, qK, qD⟩ := q; exact ⟨q0, q1, qP, va_K.moved (u := U) (U := U.calling g mk a) (Vm.Alike.refl U.vm) qK, qD⟩, va_recv hKc hPc (ci := 10) (q0 := 0) rfl rfl, fun U hU hW => ⟨rfl, by rw [hU], by rw [hU]; exact hPc, va_K.moved hW.alike hKc, hDc.weaken (fun _ _ _ _ => trivial)⟩⟩ rfl rfl hl.1 rfl (lv_room (Nat.le_of_ble_eq_true rfl)) dX5_readNewName_4 ⟨Nat.le_of_ble_eq_true rfl, Nat.le_of_ble_eq_true rfl⟩) hS (fun q _ h => hFc q h) hFc (fun r_1 u_2 t H1 locs ht hvm hw_3 hB hz1 hk1 hS => ?_)
  obtain ⟨hP1, hK1, hD1⟩ := hB
  rw [ht] at hP1
  have hK1 := va_K.moved hvm.symm hK1
  obtain ⟨hP, hD⟩ := va_join (wr := [(h0, .inr (5, [.ref r0_0, .int v0_1, .int v0_2, .int v0_3])), (h1, .inr (9, [.int v2_0, .ref r2_1, .ref r2_2, .ref r2_3, .ref r2_4, .int v2_5, .ref r2_6, .ref r2_7, .ref r2_8])), (r2_1, .inl (k3, 4, .inl f3)), (r2_6, .inr (4, [.int v4_0, .int v4_1, .ref r4_2, .ref r4_3, .ref r4_4, .ref r4_5, .ref r4_6, .ref r4_7, .ref r4_8, .ref r4_9])), (r4_2, .inl (k5, 14, .inl f5)), (r1_1, .inl (k6, 1200, .inl f6)), (r1_0, .inl (k7, 13, .inl f7))]) (w1 := [(r0_0, .inr (10, [.ref r1_0, .ref r1_1, .int v1_2, .int v1_3, .int v1_4, .int v1_5, .int v1_6, .int v1_7]))]) hP hD [1] [0, 2, 3, 4, 5, 6, 7] rfl rfl (by decide) (by decide) hk1 hFc hP1 hD1
  have hK := hK
  generalize H1 = H at hP hS ⊢
  have hP := hP.sub (ws' := [(h0, .inr (5, [.ref r0_0, .int v0_1, .int v0_2, .int v0_3])), (r0_0, .inr (10, [.ref r1_0, .ref r1_1, .int v1_2, .int v1_3, .int v1_4, .int v1_5, .int v1_6, .int v1_7])), (h1, .inr (9, [.int v2_0, .ref r2_1, .ref r2_2, .ref r2_3, .ref r2_4, .int v2_5, .ref r2_6, .ref r2_7, .ref r2_8])), (r2_1, .inl (k3, 4, .inl f3)), (r2_6, .inr (4, [.int v4_0, .int v4_1, .ref r4_2, .ref r4_3, .ref r4_4, .ref r4_5, .ref r4_6, .ref r4_7, .ref r4_8, .ref r4_9])), (r4_2, .inl (k5, 14, .inl f5)), (r1_1, .inl (k6, 1200, .inl f6)), (r1_0, .inl (k7, 13, .inl f7))]) [0, 7, 1, 2, 3, 4, 5, 6] rfl
  have hD := hD.sub (ws' := [(h0, .inr (5, [.ref r0_0, .int v0_1, .int v0_2, .int v0_3])), (r0_0, .inr (10, [.ref r1_0, .ref r1_1, .int v1_2, .int v1_3, .int v1_4, .int v1_5, .int v1_6, .int v1_7])), (h1, .inr (9, [.int v2_0, .ref r2_1, .ref r2_2, .ref r2_3, .ref r2_4, .int v2_5, .ref r2_6, .ref r2_7, .ref r2_8])), (r2_1, .inl (k3, 4, .inl f3)), (r2_6, .inr (4, [.int v4_0, .int v4_1, .ref r4_2, .ref r4_3, .ref r4_4, .ref r4_5, .ref r4_6, .ref r4_7, .ref r4_8, .ref r4_9])), (r4_2, .inl (k5, 14, .inl f5)), (r1_1, .inl (k6, 1200, .inl f6)), (r1_0, .inl (k7, 13, .inl f7))]) [0, 7, 1, 2, 3, 4, 5, 6] (by decide) rfl
  have hP : va_P (dC, dI) vwCl [(h0, .inr (5, [.ref r0_0, .int v0_1, .int v0_2, .int v0_3])), (r0_0, .inr (10, [.ref r1_0, .ref r1_1, .int v1_2, .int v1_3, .int v1_4, .int v1_5, .int v1_6, .int v1_7])), (h1, .inr (9, [.int v2_0, .ref r2_1, .ref r2_2, .ref r2_3, .ref r2_4, .int v2_5, .ref r2_6, .ref r2_7, .ref r2_8])), (r2_1, .inl (k3, 4, .inl f3)), (r2_6, .inr (4, [.int v4_0, .int v4_1, .ref r4_2, .ref r4_3, .ref r4_4, .ref r4_5, .ref r4_6, .ref r4_7, .ref r4_8, .ref r4_9])), (r4_2, .inl (k5, 14, .inl f5)), (r1_1, .inl (k6, 1200, .inl f6)), (r1_0, .inl (k7, 13, .inl f7))] H := hP
  have hD : va_D A [(h0, .inr (5, [.ref r0_0, .int v0_1, .int v0_2, .int v0_3])), (r0_0, .inr (10, [.ref r1_0, .ref r1_1, .int v1_2, .int v1_3, .int v1_4, .int v1_5, .int v1_6, .int v1_7])), (h1, .inr (9, [.int v2_0, .ref r2_1, .ref r2_2, .ref r2_3, .ref r2_4, .int v2_5, .ref r2_6, .ref r2_7, .ref r2_8])), (r2_1, .inl (k3, 4, .inl f3)), (r2_6, .inr (4, [.int v4_0, .int v4_1, .ref r4_2, .ref r4_3, .ref r4_4, .ref r4_5, .ref r4_6, .ref r4_7, .ref r4_8, .ref r4_9])), (r4_2, .inl (k5, 14, .inl f5)), (r1_1, .inl (k6, 1200, .inl f6)), (r1_0, .inl (k7, 13, .inl f7))] := hD
  obtain ⟨hr_1, -⟩ := hw_3
  refine lv_if_ne (tgt := 23) hx hb dX5_readNewName_7 (by decide) (fun c_4 => ?_) (fun c_4 => ?_)
  · have oc_4 := zk_ne rfl (by decide +kernel : (0 : Int32).toInt = 0) c_4
    refine lv_aload_n hx hb dX5_readNewName_23 rfl (lv_at hl 0 rfl) ?_
    refine va_get (D := (dC, dI)) (ci := 5) (v := .ref r0_0) (C := RX5) (T := TX5) (N := 4) hx hb hts zn_X5_readNewName_X5 hown hK hP 0 rfl rfl 0 (by decide) (hts (.fieldLink RX5 12 "ShortEnough$Parser" "words" "LShortEnough$Words;") zw_X5_readNewName_306) (fun _ h9 => h9) rfl dX5_readNewName_24 ?_
    refine va_get (D := (dC, dI)) (ci := 10) (v := .int v1_6) (C := RX10) (T := TX10) (N := 8) hx hb hts zn_X5_readNewName_X10 hown hK hP 1 rfl rfl 6 (by decide) (hts (.fieldLink RX5 138 "ShortEnough$Words" "value" "I") zw_X5_readNewName_308) (fun _ h9 => h9) rfl dX5_readNewName_27 ?_
    refine lv_istore_n (lv' := [(2, .int v1_6), (0, .ref h0), (1, .ref h1)]) hx hb dX5_readNewName_30 rfl hl (by decide) rfl (fun ls hl => ?_)
    refine lv_aload_n hx hb dX5_readNewName_31 rfl (lv_at hl 2 rfl) ?_
    refine lv_iload_n hx hb dX5_readNewName_32 rfl (lv_at hl 0 rfl) ?_
    have hPc := hP.sub (ws' := [(h1, .inr (9, [.int v2_0, .ref r2_1, .ref r2_2, .ref r2_3, .ref r2_4, .int v2_5, .ref r2_6, .ref r2_7, .ref r2_8])), (r2_1, .inl (k3, 4, .inl f3))]) [2, 3] rfl
    have hDc := hD.sub (ws' := [(h1, .inr (9, [.int v2_0, .ref r2_1, .ref r2_2, .ref r2_3, .ref r2_4, .int v2_5, .ref r2_6, .ref r2_7, .ref r2_8])), (r2_1, .inl (k3, 4, .inl f3))]) [2, 3] (by decide) rfl
    have hKc := hK.sub (tys' := [(k3, .int)]) [0] rfl
    have hFc := va_free (wc := [(h1, .inr (9, [.int v2_0, .ref r2_1, .ref r2_2, .ref r2_3, .ref r2_4, .int v2_5, .ref r2_6, .ref r2_7, .ref r2_8])), (r2_1, .inl (k3, 4, .inl f3))]) hD hS hA [2, 3] rfl
    refine va_calli (va_runV (As := [.int v1_6]) (rest := []) ⟨hx, hb, hml, hown, hts⟩ (zs_X9_findFormat l dC dI h1 v1_6 v2_0 r2_1 r2_2 r2_3 r2_4 v2_5 r2_6 r2_7 r2_8 k3 f3 (by omega) H.size) (cwV 1 hts gX5_readNewName_X9_findFormat rfl rfl rfl (by decide +kernel) ⟨Nat.le_of_ble_eq_true rfl, Nat.le_of_ble_eq_true rfl⟩) ⟨fun a U g mk q => by obtain ⟨q0, q1, qP, qK, qD⟩ := q; exact ⟨q0, q1, qP, va_K.moved (u := U) (U := U.calling g mk a) (Vm.Alike.refl U.vm) qK, qD⟩, va_recv hKc hPc (ci := 9) (q0 := 0) rfl rfl, fun U hU hW => ⟨rfl, by rw [hU], by rw [hU]; exact hPc, va_K.moved hW.alike hKc, hDc.weaken (fun _ _ _ _ => trivial)⟩⟩ rfl rfl hl.1 rfl (lv_room (Nat.le_of_ble_eq_true rfl)) dX5_readNewName_33 ⟨Nat.le_of_ble_eq_true rfl, Nat.le_of_ble_eq_true rfl⟩) hS (fun q _ h => hFc q h) hFc (fun r_5 u_6 t H1 locs ht hvm hw_7 hB hz1 hk1 hS => ?_)
    obtain ⟨hP1, hK1, hD1⟩ := hB
    rw [ht] at hP1
    have hK1 := va_K.moved hvm.symm hK1
    obtain ⟨hP, hD⟩ := va_join (wr := [(h0, .inr (5, [.ref r0_0, .int v0_1, .int v0_2, .int v0_3])), (r0_0, .inr (10, [.ref r1_0, .ref r1_1, .int v1_2, .int v1_3, .int v1_4, .int v1_5, .int v1_6, .int v1_7])), (r2_6, .inr (4, [.int v4_0, .int v4_1, .ref r4_2, .ref r4_3, .ref r4_4, .ref r4_5, .ref r4_6, .ref r4_7, .ref r4_8, .ref r4_9])), (r4_2, .inl (k5, 14, .inl f5)), (r1_1, .inl (k6, 1200, .inl f6)), (r1_0, .inl (k7, 13, .inl f7))]) (w1 := [(h1, .inr (9, [.int v2_0, .ref r2_1, .ref r2_2, .ref r2_3, .ref r2_4, .int v2_5, .ref r2_6, .ref r2_7, .ref r2_8])), (r2_1, .inl (k3, 4, .inl f3))]) hP hD [2, 3] [0, 1, 4, 5, 6, 7] rfl rfl (by decide) (by decide) hk1 hFc hP1 hD1
    have hK := hK
    generalize H1 = H at hP hS ⊢
    have hP := hP.sub (ws' := [(h0, .inr (5, [.ref r0_0, .int v0_1, .int v0_2, .int v0_3])), (r0_0, .inr (10, [.ref r1_0, .ref r1_1, .int v1_2, .int v1_3, .int v1_4, .int v1_5, .int v1_6, .int v1_7])), (h1, .inr (9, [.int v2_0, .ref r2_1, .ref r2_2, .ref r2_3, .ref r2_4, .int v2_5, .ref r2_6, .ref r2_7, .ref r2_8])), (r2_1, .inl (k3, 4, .inl f3)), (r2_6, .inr (4, [.int v4_0, .int v4_1, .ref r4_2, .ref r4_3, .ref r4_4, .ref r4_5, .ref r4_6, .ref r4_7, .ref r4_8, .ref r4_9])), (r4_2, .inl (k5, 14, .inl f5)), (r1_1, .inl (k6, 1200, .inl f6)), (r1_0, .inl (k7, 13, .inl f7))]) [0, 1, 6, 7, 2, 3, 4, 5] rfl
    have hD := hD.sub (ws' := [(h0, .inr (5, [.ref r0_0, .int v0_1, .int v0_2, .int v0_3])), (r0_0, .inr (10, [.ref r1_0, .ref r1_1, .int v1_2, .int v1_3, .int v1_4, .int v1_5, .int v1_6, .int v1_7])), (h1, .inr (9, [.int v2_0, .ref r2_1, .ref r2_2, .ref r2_3, .ref r2_4, .int v2_5, .ref r2_6, .ref r2_7, .ref r2_8])), (r2_1, .inl (k3, 4, .inl f3)), (r2_6, .inr (4, [.int v4_0, .int v4_1, .ref r4_2, .ref r4_3, .ref r4_4, .ref r4_5, .ref r4_6, .ref r4_7, .ref r4_8, .ref r4_9])), (r4_2, .inl (k5, 14, .inl f5)), (r1_1, .inl (k6, 1200, .inl f6)), (r1_0, .inl (k7, 13, .inl f7))]) [0, 1, 6, 7, 2, 3, 4, 5] (by decide) rfl
    have hP : va_P (dC, dI) vwCl [(h0, .inr (5, [.ref r0_0, .int v0_1, .int v0_2, .int v0_3])), (r0_0, .inr (10, [.ref r1_0, .ref r1_1, .int v1_2, .int v1_3, .int v1_4, .int v1_5, .int v1_6, .int v1_7])), (h1, .inr (9, [.int v2_0, .ref r2_1, .ref r2_2, .ref r2_3, .ref r2_4, .int v2_5, .ref r2_6, .ref r2_7, .ref r2_8])), (r2_1, .inl (k3, 4, .inl f3)), (r2_6, .inr (4, [.int v4_0, .int v4_1, .ref r4_2, .ref r4_3, .ref r4_4, .ref r4_5, .ref r4_6, .ref r4_7, .ref r4_8, .ref r4_9])), (r4_2, .inl (k5, 14, .inl f5)), (r1_1, .inl (k6, 1200, .inl f6)), (r1_0, .inl (k7, 13, .inl f7))] H := hP
    have hD : va_D A [(h0, .inr (5, [.ref r0_0, .int v0_1, .int v0_2, .int v0_3])), (r0_0, .inr (10, [.ref r1_0, .ref r1_1, .int v1_2, .int v1_3, .int v1_4, .int v1_5, .int v1_6, .int v1_7])), (h1, .inr (9, [.int v2_0, .ref r2_1, .ref r2_2, .ref r2_3, .ref r2_4, .int v2_5, .ref r2_6, .ref r2_7, .ref r2_8])), (r2_1, .inl (k3, 4, .inl f3)), (r2_6, .inr (4, [.int v4_0, .int v4_1, .ref r4_2, .ref r4_3, .ref r4_4, .ref r4_5, .ref r4_6, .ref r4_7, .ref r4_8, .ref r4_9])), (r4_2, .inl (k5, 14, .inl f5)), (r1_1, .inl (k6, 1200, .inl f6)), (r1_0, .inl (k7, 13, .inl f7))] := hD
    obtain ⟨hr_5, hir_5, -⟩ := hw_7
    refine lv_iconst (v := (-1)) hx hb dX5_readNewName_36 (by decide +kernel) ?_
    refine lv_icmp_ne (tgt := 52) hx hb dX5_readNewName_37 (by decide) (fun c_8 => ?_) (fun c_8 => ?_)
    · have oc_8 := zk_ne rfl (by decide +kernel : ((-1) : Int32).toInt = -1) c_8
      refine lv_aload_n hx hb dX5_readNewName_52 rfl (lv_at hl 1 rfl) ?_
      refine lv_iconst (v := 3) hx hb dX5_readNewName_53 (by decide +kernel) ?_
      refine lv_aload_n hx hb dX5_readNewName_54 rfl (lv_at hl 1 rfl) ?_
      refine va_get (D := (dC, dI)) (ci := 5) (v := .ref r0_0) (C := RX5) (T := TX5) (N := 4) hx hb hts zn_X5_readNewName_X5 hown hK hP 0 rfl rfl 0 (by decide) (hts (.fieldLink RX5 12 "ShortEnough$Parser" "words" "LShortEnough$Words;") zw_X5_readNewName_306) (fun _ h9 => h9) rfl dX5_readNewName_55 ?_
      refine va_get (D := (dC, dI)) (ci := 10) (v := .int v1_5) (C := RX10) (T := TX10) (N := 8) hx hb hts zn_X5_readNewName_X10 hown hK hP 1 rfl rfl 5 (by decide) (hts (.fieldLink RX5 64 "ShortEnough$Words" "start" "I") zw_X5_readNewName_309) (fun _ h9 => h9) rfl dX5_readNewName_58 ?_
      have hPc := hP.sub (ws' := [(h0, .inr (5, [.ref r0_0, .int v0_1, .int v0_2, .int v0_3]))]) [0] rfl
      have hDc := hD.sub (ws' := [(h0, .inr (5, [.ref r0_0, .int v0_1, .int v0_2, .int v0_3]))]) [0] (by decide) rfl
      have hKc := hK.sub (tys' := []) [] rfl
      have hFc := va_free (wc := [(h0, .inr (5, [.ref r0_0, .int v0_1, .int v0_2, .int v0_3]))]) hD hS hA [0] rfl
      refine va_calli (va_runV (As := [.int 3, .int v1_5]) (rest := []) ⟨hx, hb, hml, hown, hts⟩ (zs_X5_stopAt l dC dI h0 3 v1_5 r0_0 v0_1 v0_2 v0_3  H.size) (cwV 2 hts gX5_readNewName_X5_stopAt rfl rfl rfl (by decide +kernel) ⟨Nat.le_of_ble_eq_true rfl, Nat.le_of_ble_eq_true rfl⟩) ⟨fun a U g mk q => by obtain ⟨q0, q1, qP, qK, qD⟩ := q; exact ⟨q0, q1, qP, va_K.moved (u := U) (U := U.calling g mk a) (Vm.Alike.refl U.vm) qK, qD⟩, va_recv hKc hPc (ci := 5) (q0 := 0) rfl rfl, fun U hU hW => ⟨rfl, by rw [hU], by rw [hU]; exact hPc, va_K.moved hW.alike hKc, hDc.weaken (fun _ _ _ _ => trivial)⟩⟩ rfl rfl hl.1 rfl (lv_room (Nat.le_of_ble_eq_true rfl)) dX5_readNewName_61 ⟨Nat.le_of_ble_eq_true rfl, Nat.le_of_ble_eq_true rfl⟩) hS (fun q _ h => hFc q h) hFc (fun r_9 u_10 t H1 locs ht hvm hw_11 hB hz1 hk1 hS => ?_)
      obtain ⟨hP1, hK1, hD1⟩ := hB
      rw [ht] at hP1
      have hK1 := va_K.moved hvm.symm hK1
      obtain ⟨hP, hD⟩ := va_join (wr := [(r0_0, .inr (10, [.ref r1_0, .ref r1_1, .int v1_2, .int v1_3, .int v1_4, .int v1_5, .int v1_6, .int v1_7])), (h1, .inr (9, [.int v2_0, .ref r2_1, .ref r2_2, .ref r2_3, .ref r2_4, .int v2_5, .ref r2_6, .ref r2_7, .ref r2_8])), (r2_1, .inl (k3, 4, .inl f3)), (r2_6, .inr (4, [.int v4_0, .int v4_1, .ref r4_2, .ref r4_3, .ref r4_4, .ref r4_5, .ref r4_6, .ref r4_7, .ref r4_8, .ref r4_9])), (r4_2, .inl (k5, 14, .inl f5)), (r1_1, .inl (k6, 1200, .inl f6)), (r1_0, .inl (k7, 13, .inl f7))]) (w1 := [(h0, .inr (5, [.ref r0_0, .int v0_1, .int (u_10.1 0), .int (u_10.1 1)]))]) hP hD [0] [1, 2, 3, 4, 5, 6, 7] rfl rfl (by decide) (by decide) hk1 hFc hP1 hD1
      have hK := hK
      generalize H1 = H at hP hS ⊢
      have hP := hP.sub (ws' := [(h0, .inr (5, [.ref r0_0, .int v0_1, .int (u_10.1 0), .int (u_10.1 1)])), (r0_0, .inr (10, [.ref r1_0, .ref r1_1, .int v1_2, .int v1_3, .int v1_4, .int v1_5, .int v1_6, .int v1_7])), (h1, .inr (9, [.int v2_0, .ref r2_1, .ref r2_2, .ref r2_3, .ref r2_4, .int v2_5, .ref r2_6, .ref r2_7, .ref r2_8])), (r2_1, .inl (k3, 4, .inl f3)), (r2_6, .inr (4, [.int v4_0, .int v4_1, .ref r4_2, .ref r4_3, .ref r4_4, .ref r4_5, .ref r4_6, .ref r4_7, .ref r4_8, .ref r4_9])), (r4_2, .inl (k5, 14, .inl f5)), (r1_1, .inl (k6, 1200, .inl f6)), (r1_0, .inl (k7, 13, .inl f7))]) [7, 0, 1, 2, 3, 4, 5, 6] rfl
      have hD := hD.sub (ws' := [(h0, .inr (5, [.ref r0_0, .int v0_1, .int (u_10.1 0), .int (u_10.1 1)])), (r0_0, .inr (10, [.ref r1_0, .ref r1_1, .int v1_2, .int v1_3, .int v1_4, .int v1_5, .int v1_6, .int v1_7])), (h1, .inr (9, [.int v2_0, .ref r2_1, .ref r2_2, .ref r2_3, .ref r2_4, .int v2_5, .ref r2_6, .ref r2_7, .ref r2_8])), (r2_1, .inl (k3, 4, .inl f3)), (r2_6, .inr (4, [.int v4_0, .int v4_1, .ref r4_2, .ref r4_3, .ref r4_4, .ref r4_5, .ref r4_6, .ref r4_7, .ref r4_8, .ref r4_9])), (r4_2, .inl (k5, 14, .inl f5)), (r1_1, .inl (k6, 1200, .inl f6)), (r1_0, .inl (k7, 13, .inl f7))]) [7, 0, 1, 2, 3, 4, 5, 6] (by decide) rfl
      have hP : va_P (dC, dI) vwCl [(h0, .inr (5, [.ref r0_0, .int v0_1, .int (u_10.1 0), .int (u_10.1 1)])), (r0_0, .inr (10, [.ref r1_0, .ref r1_1, .int v1_2, .int v1_3, .int v1_4, .int v1_5, .int v1_6, .int v1_7])), (h1, .inr (9, [.int v2_0, .ref r2_1, .ref r2_2, .ref r2_3, .ref r2_4, .int v2_5, .ref r2_6, .ref r2_7, .ref r2_8])), (r2_1, .inl (k3, 4, .inl f3)), (r2_6, .inr (4, [.int v4_0, .int v4_1, .ref r4_2, .ref r4_3, .ref r4_4, .ref r4_5, .ref r4_6, .ref r4_7, .ref r4_8, .ref r4_9])), (r4_2, .inl (k5, 14, .inl f5)), (r1_1, .inl (k6, 1200, .inl f6)), (r1_0, .inl (k7, 13, .inl f7))] H := hP
      have hD : va_D A [(h0, .inr (5, [.ref r0_0, .int v0_1, .int (u_10.1 0), .int (u_10.1 1)])), (r0_0, .inr (10, [.ref r1_0, .ref r1_1, .int v1_2, .int v1_3, .int v1_4, .int v1_5, .int v1_6, .int v1_7])), (h1, .inr (9, [.int v2_0, .ref r2_1, .ref r2_2, .ref r2_3, .ref r2_4, .int v2_5, .ref r2_6, .ref r2_7, .ref r2_8])), (r2_1, .inl (k3, 4, .inl f3)), (r2_6, .inr (4, [.int v4_0, .int v4_1, .ref r4_2, .ref r4_3, .ref r4_4, .ref r4_5, .ref r4_6, .ref r4_7, .ref r4_8, .ref r4_9])), (r4_2, .inl (k5, 14, .inl f5)), (r1_1, .inl (k6, 1200, .inl f6)), (r1_0, .inl (k7, 13, .inl f7))] := hD
      obtain ⟨hr_9, -⟩ := hw_11
      have hP9 := hP.sub (ws' := [(h0, .inr (5, [.ref r0_0, .int v0_1, .int (u_10.1 0), .int (u_10.1 1)])), (r0_0, .inr (10, [.ref r1_0, .ref r1_1, .int v1_2, .int v1_3, .int v1_4, .int v1_5, .int v1_6, .int v1_7])), (h1, .inr (9, [.int v2_0, .ref r2_1, .ref r2_2, .ref r2_3, .ref r2_4, .int v2_5, .ref r2_6, .ref r2_7, .ref r2_8])), (r2_1, .inl (k3, 4, .inl f3)), (r2_6, .inr (4, [.int v4_0, .int v4_1, .ref r4_2, .ref r4_3, .ref r4_4, .ref r4_5, .ref r4_6, .ref r4_7, .ref r4_8, .ref r4_9])), (r4_2, .inl (k5, 14, .inl f5)), (r1_1, .inl (k6, 1200, .inl f6)), (r1_0, .inl (k7, 13, .inl f7))]) [0, 1, 2, 3, 4, 5, 6, 7] rfl
      have hD9 := hD.sub (ws' := [(h0, .inr (5, [.ref r0_0, .int v0_1, .int (u_10.1 0), .int (u_10.1 1)])), (r0_0, .inr (10, [.ref r1_0, .ref r1_1, .int v1_2, .int v1_3, .int v1_4, .int v1_5, .int v1_6, .int v1_7])), (h1, .inr (9, [.int v2_0, .ref r2_1, .ref r2_2, .ref r2_3, .ref r2_4, .int v2_5, .ref r2_6, .ref r2_7, .ref r2_8])), (r2_1, .inl (k3, 4, .inl f3)), (r2_6, .inr (4, [.int v4_0, .int v4_1, .ref r4_2, .ref r4_3, .ref r4_4, .ref r4_5, .ref r4_6, .ref r4_7, .ref r4_8, .ref r4_9])), (r4_2, .inl (k5, 14, .inl f5)), (r1_1, .inl (k6, 1200, .inl f6)), (r1_0, .inl (k7, 13, .inl f7))]) [0, 1, 2, 3, 4, 5, 6, 7] (by decide) rfl
      have hK9 := hK.sub (tys' := [(k3, .int), (k5, .int), (k6, .byte), (k7, .int)]) [0, 1, 2, 3] rfl
      rw [← hQ]
      exact W.zret (v := r_9) hx hb hr (zn_b (by omega)) (fun t ht hW => ⟨⟨r_9, ((fun k => ([v0_1, (u_10.1 0), (u_10.1 1), v1_3, v1_4, v1_5, v1_6, v1_7] : List Int32).getD k 0), (fun k => ([] : List (Nat → Int32)).getD k (fun _ => 0)), (fun k => ([] : List (Nat → Int64)).getD k (fun _ => 0))), rfl, ⟨(show (0 : Int) ≤ (r_9 : Int32).toInt ∧ (r_9 : Int32).toInt ≤ 1 by omega), (show (0 : Int) ≤ (v1_3 : Int32).toInt ∧ (v1_3 : Int32).toInt ≤ 1200 by omega), (show (0 : Int) ≤ (v1_4 : Int32).toInt ∧ (v1_4 : Int32).toInt ≤ 5 by omega), (show (0 : Int) ≤ (v1_5 : Int32).toInt ∧ (v1_5 : Int32).toInt ≤ 1200 by omega), (show (-1 : Int) ≤ (v1_7 : Int32).toInt ∧ (v1_7 : Int32).toInt ≤ 12 by omega), trivial⟩, by rw [ht]; exact hP9, va_K.moved hW.alike hK9, hD9⟩, hS.F ht⟩) hS.2.2 dX5_readNewName_64
    have oc_8 := zk_eq rfl (by decide +kernel : ((-1) : Int32).toInt = -1) c_8
    refine lv_aload_n hx hb dX5_readNewName_40 rfl (lv_at hl 2 rfl) ?_
    refine va_get (D := (dC, dI)) (ci := 9) (v := .ref r2_6) (C := RX9) (T := TX9) (N := 9) hx hb hts zn_X5_readNewName_X9 hown hK hP 2 rfl rfl 6 (by decide) (hts (.fieldLink RX5 44 "ShortEnough$Task" "numbers" "LShortEnough$Numbers;") zw_X5_readNewName_311) (fun _ h9 => h9) rfl dX5_readNewName_41 ?_
    refine lv_iload_n hx hb dX5_readNewName_44 rfl (lv_at hl 0 rfl) ?_
    have hPc := hP.sub (ws' := [(r2_6, .inr (4, [.int v4_0, .int v4_1, .ref r4_2, .ref r4_3, .ref r4_4, .ref r4_5, .ref r4_6, .ref r4_7, .ref r4_8, .ref r4_9])), (r4_2, .inl (k5, 14, .inl f5))]) [4, 5] rfl
    have hDc := hD.sub (ws' := [(r2_6, .inr (4, [.int v4_0, .int v4_1, .ref r4_2, .ref r4_3, .ref r4_4, .ref r4_5, .ref r4_6, .ref r4_7, .ref r4_8, .ref r4_9])), (r4_2, .inl (k5, 14, .inl f5))]) [4, 5] (by decide) rfl
    have hKc := hK.sub (tys' := [(k5, .int)]) [1] rfl
    have hFc := va_free (wc := [(r2_6, .inr (4, [.int v4_0, .int v4_1, .ref r4_2, .ref r4_3, .ref r4_4, .ref r4_5, .ref r4_6, .ref r4_7, .ref r4_8, .ref r4_9])), (r4_2, .inl (k5, 14, .inl f5))]) hD hS hA [4, 5] rfl
    refine va_calli (va_runV (As := [.int v1_6]) (rest := []) ⟨hx, hb, hml, hown, hts⟩ (zs_X4_find l dC dI r2_6 v1_6 v4_0 v4_1 r4_2 r4_3 r4_4 r4_5 r4_6 r4_7 r4_8 r4_9 k5 f5 (by omega) H.size) (cwV 1 hts gX5_readNewName_X4_find rfl rfl rfl (by decide +kernel) ⟨Nat.le_of_ble_eq_true rfl, Nat.le_of_ble_eq_true rfl⟩) ⟨fun a U g mk q => by obtain ⟨q0, q1, qP, qK, qD⟩ := q; exact ⟨q0, q1, qP, va_K.moved (u := U) (U := U.calling g mk a) (Vm.Alike.refl U.vm) qK, qD⟩, va_recv hKc hPc (ci := 4) (q0 := 0) rfl rfl, fun U hU hW => ⟨rfl, by rw [hU], by rw [hU]; exact hPc, va_K.moved hW.alike hKc, hDc.weaken (fun _ _ _ _ => trivial)⟩⟩ rfl rfl hl.1 rfl (lv_room (Nat.le_of_ble_eq_true rfl)) dX5_readNewName_45 ⟨Nat.le_of_ble_eq_true rfl, Nat.le_of_ble_eq_true rfl⟩) hS (fun q _ h => hFc q h) hFc (fun r_12 u_13 t H1 locs ht hvm hw_14 hB hz1 hk1 hS => ?_)
    obtain ⟨hP1, hK1, hD1⟩ := hB
    rw [ht] at hP1
    have hK1 := va_K.moved hvm.symm hK1
    obtain ⟨hP, hD⟩ := va_join (wr := [(h0, .inr (5, [.ref r0_0, .int v0_1, .int v0_2, .int v0_3])), (r0_0, .inr (10, [.ref r1_0, .ref r1_1, .int v1_2, .int v1_3, .int v1_4, .int v1_5, .int v1_6, .int v1_7])), (h1, .inr (9, [.int v2_0, .ref r2_1, .ref r2_2, .ref r2_3, .ref r2_4, .int v2_5, .ref r2_6, .ref r2_7, .ref r2_8])), (r2_1, .inl (k3, 4, .inl f3)), (r1_1, .inl (k6, 1200, .inl f6)), (r1_0, .inl (k7, 13, .inl f7))]) (w1 := [(r2_6, .inr (4, [.int v4_0, .int v4_1, .ref r4_2, .ref r4_3, .ref r4_4, .ref r4_5, .ref r4_6, .ref r4_7, .ref r4_8, .ref r4_9])), (r4_2, .inl (k5, 14, .inl f5))]) hP hD [4, 5] [0, 1, 2, 3, 6, 7] rfl rfl (by decide) (by decide) hk1 hFc hP1 hD1
    have hK := hK
    generalize H1 = H at hP hS ⊢
    have hP := hP.sub (ws' := [(h0, .inr (5, [.ref r0_0, .int v0_1, .int v0_2, .int v0_3])), (r0_0, .inr (10, [.ref r1_0, .ref r1_1, .int v1_2, .int v1_3, .int v1_4, .int v1_5, .int v1_6, .int v1_7])), (h1, .inr (9, [.int v2_0, .ref r2_1, .ref r2_2, .ref r2_3, .ref r2_4, .int v2_5, .ref r2_6, .ref r2_7, .ref r2_8])), (r2_1, .inl (k3, 4, .inl f3)), (r2_6, .inr (4, [.int v4_0, .int v4_1, .ref r4_2, .ref r4_3, .ref r4_4, .ref r4_5, .ref r4_6, .ref r4_7, .ref r4_8, .ref r4_9])), (r4_2, .inl (k5, 14, .inl f5)), (r1_1, .inl (k6, 1200, .inl f6)), (r1_0, .inl (k7, 13, .inl f7))]) [0, 1, 2, 3, 6, 7, 4, 5] rfl
    have hD := hD.sub (ws' := [(h0, .inr (5, [.ref r0_0, .int v0_1, .int v0_2, .int v0_3])), (r0_0, .inr (10, [.ref r1_0, .ref r1_1, .int v1_2, .int v1_3, .int v1_4, .int v1_5, .int v1_6, .int v1_7])), (h1, .inr (9, [.int v2_0, .ref r2_1, .ref r2_2, .ref r2_3, .ref r2_4, .int v2_5, .ref r2_6, .ref r2_7, .ref r2_8])), (r2_1, .inl (k3, 4, .inl f3)), (r2_6, .inr (4, [.int v4_0, .int v4_1, .ref r4_2, .ref r4_3, .ref r4_4, .ref r4_5, .ref r4_6, .ref r4_7, .ref r4_8, .ref r4_9])), (r4_2, .inl (k5, 14, .inl f5)), (r1_1, .inl (k6, 1200, .inl f6)), (r1_0, .inl (k7, 13, .inl f7))]) [0, 1, 2, 3, 6, 7, 4, 5] (by decide) rfl
    have hP : va_P (dC, dI) vwCl [(h0, .inr (5, [.ref r0_0, .int v0_1, .int v0_2, .int v0_3])), (r0_0, .inr (10, [.ref r1_0, .ref r1_1, .int v1_2, .int v1_3, .int v1_4, .int v1_5, .int v1_6, .int v1_7])), (h1, .inr (9, [.int v2_0, .ref r2_1, .ref r2_2, .ref r2_3, .ref r2_4, .int v2_5, .ref r2_6, .ref r2_7, .ref r2_8])), (r2_1, .inl (k3, 4, .inl f3)), (r2_6, .inr (4, [.int v4_0, .int v4_1, .ref r4_2, .ref r4_3, .ref r4_4, .ref r4_5, .ref r4_6, .ref r4_7, .ref r4_8, .ref r4_9])), (r4_2, .inl (k5, 14, .inl f5)), (r1_1, .inl (k6, 1200, .inl f6)), (r1_0, .inl (k7, 13, .inl f7))] H := hP
    have hD : va_D A [(h0, .inr (5, [.ref r0_0, .int v0_1, .int v0_2, .int v0_3])), (r0_0, .inr (10, [.ref r1_0, .ref r1_1, .int v1_2, .int v1_3, .int v1_4, .int v1_5, .int v1_6, .int v1_7])), (h1, .inr (9, [.int v2_0, .ref r2_1, .ref r2_2, .ref r2_3, .ref r2_4, .int v2_5, .ref r2_6, .ref r2_7, .ref r2_8])), (r2_1, .inl (k3, 4, .inl f3)), (r2_6, .inr (4, [.int v4_0, .int v4_1, .ref r4_2, .ref r4_3, .ref r4_4, .ref r4_5, .ref r4_6, .ref r4_7, .ref r4_8, .ref r4_9])), (r4_2, .inl (k5, 14, .inl f5)), (r1_1, .inl (k6, 1200, .inl f6)), (r1_0, .inl (k7, 13, .inl f7))] := hD
    obtain ⟨hr_12, hir_12, -⟩ := hw_14
    refine lv_iconst (v := (-1)) hx hb dX5_readNewName_48 (by decide +kernel) ?_
    refine lv_icmp_eq (tgt := 65) hx hb dX5_readNewName_49 (by decide) (fun c_15 => ?_) (fun c_15 => ?_)
    · have oc_15 := zk_eq rfl (by decide +kernel : ((-1) : Int32).toInt = -1) c_15
      refine lv_aload_n hx hb dX5_readNewName_65 rfl (lv_at hl 1 rfl) ?_
      refine lv_iload_n hx hb dX5_readNewName_66 rfl (lv_at hl 0 rfl) ?_
      refine va_put (D := (dC, dI)) (ci := 5) (v := .int v1_6) (ty := .int) (C := RX5) (T := TX5) (N := 4) hx hb hts zn_X5_readNewName_X5 tyX5 tyX5_ok nmX5 hown hK hP hD hS 0 rfl rfl 1 (by decide) (hts (.fieldLink RX5 102 "ShortEnough$Parser" "got" "I") zw_X5_readNewName_312) (fun _ h9 => h9) rfl (by decide +kernel) rfl rfl (Nat.le_of_ble_eq_true rfl) dX5_readNewName_67 (fun H locs hP hD hS => ?_)
      have hP : va_P (dC, dI) vwCl [(h0, .inr (5, [.ref r0_0, .int v1_6, .int v0_2, .int v0_3])), (r0_0, .inr (10, [.ref r1_0, .ref r1_1, .int v1_2, .int v1_3, .int v1_4, .int v1_5, .int v1_6, .int v1_7])), (h1, .inr (9, [.int v2_0, .ref r2_1, .ref r2_2, .ref r2_3, .ref r2_4, .int v2_5, .ref r2_6, .ref r2_7, .ref r2_8])), (r2_1, .inl (k3, 4, .inl f3)), (r2_6, .inr (4, [.int v4_0, .int v4_1, .ref r4_2, .ref r4_3, .ref r4_4, .ref r4_5, .ref r4_6, .ref r4_7, .ref r4_8, .ref r4_9])), (r4_2, .inl (k5, 14, .inl f5)), (r1_1, .inl (k6, 1200, .inl f6)), (r1_0, .inl (k7, 13, .inl f7))] H := hP
      have hD : va_D A [(h0, .inr (5, [.ref r0_0, .int v1_6, .int v0_2, .int v0_3])), (r0_0, .inr (10, [.ref r1_0, .ref r1_1, .int v1_2, .int v1_3, .int v1_4, .int v1_5, .int v1_6, .int v1_7])), (h1, .inr (9, [.int v2_0, .ref r2_1, .ref r2_2, .ref r2_3, .ref r2_4, .int v2_5, .ref r2_6, .ref r2_7, .ref r2_8])), (r2_1, .inl (k3, 4, .inl f3)), (r2_6, .inr (4, [.int v4_0, .int v4_1, .ref r4_2, .ref r4_3, .ref r4_4, .ref r4_5, .ref r4_6, .ref r4_7, .ref r4_8, .ref r4_9])), (r4_2, .inl (k5, 14, .inl f5)), (r1_1, .inl (k6, 1200, .inl f6)), (r1_0, .inl (k7, 13, .inl f7))] := hD
      refine lv_aload_n hx hb dX5_readNewName_70 rfl (lv_at hl 1 rfl) ?_
      refine va_get (D := (dC, dI)) (ci := 5) (v := .ref r0_0) (C := RX5) (T := TX5) (N := 4) hx hb hts zn_X5_readNewName_X5 hown hK hP 0 rfl rfl 0 (by decide) (hts (.fieldLink RX5 12 "ShortEnough$Parser" "words" "LShortEnough$Words;") zw_X5_readNewName_306) (fun _ h9 => h9) rfl dX5_readNewName_71 ?_
      have hPc := hP.sub (ws' := [(r0_0, .inr (10, [.ref r1_0, .ref r1_1, .int v1_2, .int v1_3, .int v1_4, .int v1_5, .int v1_6, .int v1_7])), (r1_1, .inl (k6, 1200, .inl f6)), (r1_0, .inl (k7, 13, .inl f7))]) [1, 6, 7] rfl
      have hDc := hD.sub (ws' := [(r0_0, .inr (10, [.ref r1_0, .ref r1_1, .int v1_2, .int v1_3, .int v1_4, .int v1_5, .int v1_6, .int v1_7])), (r1_1, .inl (k6, 1200, .inl f6)), (r1_0, .inl (k7, 13, .inl f7))]) [1, 6, 7] (by decide) rfl
      have hKc := hK.sub (tys' := [(k6, .byte), (k7, .int)]) [2, 3] rfl
      have hFc := va_free (wc := [(r0_0, .inr (10, [.ref r1_0, .ref r1_1, .int v1_2, .int v1_3, .int v1_4, .int v1_5, .int v1_6, .int v1_7])), (r1_1, .inl (k6, 1200, .inl f6)), (r1_0, .inl (k7, 13, .inl f7))]) hD hS hA [1, 6, 7] rfl
      refine va_callv (va_runV (As := []) (rest := []) ⟨hx, hb, hml, hown, hts⟩ (zs_X10_advance l dC dI r0_0 r1_0 r1_1 v1_2 v1_3 v1_4 v1_5 v1_6 v1_7 k6 f6 k7 f7 (by omega) (by omega) (by omega) (by omega) (by omega) H.size) (cwV 0 hts gX5_readNewName_X10_advance rfl rfl rfl (by decide +kernel) ⟨Nat.le_of_ble_eq_true rfl, Nat.le_of_ble_eq_true rfl⟩) ⟨fun a U g mk q => by obtain ⟨q0, q1, qP, qK, qD⟩ := q; exact ⟨q0, q1, qP, va_K.moved (u := U) (U := U.calling g mk a) (Vm.Alike.refl U.vm) qK, qD⟩, va_recv hKc hPc (ci := 10) (q0 := 0) rfl rfl, fun U hU hW => ⟨rfl, by rw [hU], by rw [hU]; exact hPc, va_K.moved hW.alike hKc, hDc.weaken (fun _ _ _ _ => trivial)⟩⟩ rfl rfl hl.1 rfl (lv_room (Nat.le_of_ble_eq_true rfl)) dX5_readNewName_74 ⟨Nat.le_of_ble_eq_true rfl, Nat.le_of_ble_eq_true rfl⟩) hS (fun q _ h => hFc q h) hFc (fun u_17 t H1 locs ht hvm hw_18 hB hz1 hk1 hS => ?_)
      obtain ⟨hP1, hK1, hD1⟩ := hB
      rw [ht] at hP1
      have hK1 := va_K.moved hvm.symm hK1
      obtain ⟨hP, hD⟩ := va_join (wr := [(h0, .inr (5, [.ref r0_0, .int v1_6, .int v0_2, .int v0_3])), (h1, .inr (9, [.int v2_0, .ref r2_1, .ref r2_2, .ref r2_3, .ref r2_4, .int v2_5, .ref r2_6, .ref r2_7, .ref r2_8])), (r2_1, .inl (k3, 4, .inl f3)), (r2_6, .inr (4, [.int v4_0, .int v4_1, .ref r4_2, .ref r4_3, .ref r4_4, .ref r4_5, .ref r4_6, .ref r4_7, .ref r4_8, .ref r4_9])), (r4_2, .inl (k5, 14, .inl f5))]) (w1 := [(r0_0, .inr (10, [.ref r1_0, .ref r1_1, .int v1_2, .int (u_17.1 0), .int (u_17.1 1), .int (u_17.1 2), .int (u_17.1 3), .int (u_17.1 4)])), (r1_1, .inl (k6, 1200, .inl f6)), (r1_0, .inl (k7, 13, .inl f7))]) hP hD [1, 6, 7] [0, 2, 3, 4, 5] rfl rfl (by decide) (by decide) hk1 hFc hP1 hD1
      have hK := hK
      generalize H1 = H at hP hS ⊢
      have hP := hP.sub (ws' := [(h0, .inr (5, [.ref r0_0, .int v1_6, .int v0_2, .int v0_3])), (r0_0, .inr (10, [.ref r1_0, .ref r1_1, .int v1_2, .int (u_17.1 0), .int (u_17.1 1), .int (u_17.1 2), .int (u_17.1 3), .int (u_17.1 4)])), (h1, .inr (9, [.int v2_0, .ref r2_1, .ref r2_2, .ref r2_3, .ref r2_4, .int v2_5, .ref r2_6, .ref r2_7, .ref r2_8])), (r2_1, .inl (k3, 4, .inl f3)), (r2_6, .inr (4, [.int v4_0, .int v4_1, .ref r4_2, .ref r4_3, .ref r4_4, .ref r4_5, .ref r4_6, .ref r4_7, .ref r4_8, .ref r4_9])), (r4_2, .inl (k5, 14, .inl f5)), (r1_1, .inl (k6, 1200, .inl f6)), (r1_0, .inl (k7, 13, .inl f7))]) [0, 5, 1, 2, 3, 4, 6, 7] rfl
      have hD := hD.sub (ws' := [(h0, .inr (5, [.ref r0_0, .int v1_6, .int v0_2, .int v0_3])), (r0_0, .inr (10, [.ref r1_0, .ref r1_1, .int v1_2, .int (u_17.1 0), .int (u_17.1 1), .int (u_17.1 2), .int (u_17.1 3), .int (u_17.1 4)])), (h1, .inr (9, [.int v2_0, .ref r2_1, .ref r2_2, .ref r2_3, .ref r2_4, .int v2_5, .ref r2_6, .ref r2_7, .ref r2_8])), (r2_1, .inl (k3, 4, .inl f3)), (r2_6, .inr (4, [.int v4_0, .int v4_1, .ref r4_2, .ref r4_3, .ref r4_4, .ref r4_5, .ref r4_6, .ref r4_7, .ref r4_8, .ref r4_9])), (r4_2, .inl (k5, 14, .inl f5)), (r1_1, .inl (k6, 1200, .inl f6)), (r1_0, .inl (k7, 13, .inl f7))]) [0, 5, 1, 2, 3, 4, 6, 7] (by decide) rfl
      have hP : va_P (dC, dI) vwCl [(h0, .inr (5, [.ref r0_0, .int v1_6, .int v0_2, .int v0_3])), (r0_0, .inr (10, [.ref r1_0, .ref r1_1, .int v1_2, .int (u_17.1 0), .int (u_17.1 1), .int (u_17.1 2), .int (u_17.1 3), .int (u_17.1 4)])), (h1, .inr (9, [.int v2_0, .ref r2_1, .ref r2_2, .ref r2_3, .ref r2_4, .int v2_5, .ref r2_6, .ref r2_7, .ref r2_8])), (r2_1, .inl (k3, 4, .inl f3)), (r2_6, .inr (4, [.int v4_0, .int v4_1, .ref r4_2, .ref r4_3, .ref r4_4, .ref r4_5, .ref r4_6, .ref r4_7, .ref r4_8, .ref r4_9])), (r4_2, .inl (k5, 14, .inl f5)), (r1_1, .inl (k6, 1200, .inl f6)), (r1_0, .inl (k7, 13, .inl f7))] H := hP
      have hD : va_D A [(h0, .inr (5, [.ref r0_0, .int v1_6, .int v0_2, .int v0_3])), (r0_0, .inr (10, [.ref r1_0, .ref r1_1, .int v1_2, .int (u_17.1 0), .int (u_17.1 1), .int (u_17.1 2), .int (u_17.1 3), .int (u_17.1 4)])), (h1, .inr (9, [.int v2_0, .ref r2_1, .ref r2_2, .ref r2_3, .ref r2_4, .int v2_5, .ref r2_6, .ref r2_7, .ref r2_8])), (r2_1, .inl (k3, 4, .inl f3)), (r2_6, .inr (4, [.int v4_0, .int v4_1, .ref r4_2, .ref r4_3, .ref r4_4, .ref r4_5, .ref r4_6, .ref r4_7, .ref r4_8, .ref r4_9])), (r4_2, .inl (k5, 14, .inl f5)), (r1_1, .inl (k6, 1200, .inl f6)), (r1_0, .inl (k7, 13, .inl f7))] := hD
      obtain ⟨hmr_16_0, hmr_16_1, hmr_16_2, hmr_16_3, -⟩ := hw_18
      refine lv_iconst (v := 1) hx hb dX5_readNewName_77 (by decide +kernel) ?_
      have hP9 := hP.sub (ws' := [(h0, .inr (5, [.ref r0_0, .int v1_6, .int v0_2, .int v0_3])), (r0_0, .inr (10, [.ref r1_0, .ref r1_1, .int v1_2, .int (u_17.1 0), .int (u_17.1 1), .int (u_17.1 2), .int (u_17.1 3), .int (u_17.1 4)])), (h1, .inr (9, [.int v2_0, .ref r2_1, .ref r2_2, .ref r2_3, .ref r2_4, .int v2_5, .ref r2_6, .ref r2_7, .ref r2_8])), (r2_1, .inl (k3, 4, .inl f3)), (r2_6, .inr (4, [.int v4_0, .int v4_1, .ref r4_2, .ref r4_3, .ref r4_4, .ref r4_5, .ref r4_6, .ref r4_7, .ref r4_8, .ref r4_9])), (r4_2, .inl (k5, 14, .inl f5)), (r1_1, .inl (k6, 1200, .inl f6)), (r1_0, .inl (k7, 13, .inl f7))]) [0, 1, 2, 3, 4, 5, 6, 7] rfl
      have hD9 := hD.sub (ws' := [(h0, .inr (5, [.ref r0_0, .int v1_6, .int v0_2, .int v0_3])), (r0_0, .inr (10, [.ref r1_0, .ref r1_1, .int v1_2, .int (u_17.1 0), .int (u_17.1 1), .int (u_17.1 2), .int (u_17.1 3), .int (u_17.1 4)])), (h1, .inr (9, [.int v2_0, .ref r2_1, .ref r2_2, .ref r2_3, .ref r2_4, .int v2_5, .ref r2_6, .ref r2_7, .ref r2_8])), (r2_1, .inl (k3, 4, .inl f3)), (r2_6, .inr (4, [.int v4_0, .int v4_1, .ref r4_2, .ref r4_3, .ref r4_4, .ref r4_5, .ref r4_6, .ref r4_7, .ref r4_8, .ref r4_9])), (r4_2, .inl (k5, 14, .inl f5)), (r1_1, .inl (k6, 1200, .inl f6)), (r1_0, .inl (k7, 13, .inl f7))]) [0, 1, 2, 3, 4, 5, 6, 7] (by decide) rfl
      have hK9 := hK.sub (tys' := [(k3, .int), (k5, .int), (k6, .byte), (k7, .int)]) [0, 1, 2, 3] rfl
      rw [← hQ]
      exact W.zret (v := 1) hx hb hr rfl (fun t ht hW => ⟨⟨1, ((fun k => ([v1_6, v0_2, v0_3, (u_17.1 0), (u_17.1 1), (u_17.1 2), (u_17.1 3), (u_17.1 4)] : List Int32).getD k 0), (fun k => ([] : List (Nat → Int32)).getD k (fun _ => 0)), (fun k => ([] : List (Nat → Int64)).getD k (fun _ => 0))), rfl, ⟨(show (0 : Int) ≤ (1 : Int32).toInt ∧ (1 : Int32).toInt ≤ 1 by decide +kernel), (show (0 : Int) ≤ ((u_17.1 0) : Int32).toInt ∧ ((u_17.1 0) : Int32).toInt ≤ 1200 by omega), (show (0 : Int) ≤ ((u_17.1 1) : Int32).toInt ∧ ((u_17.1 1) : Int32).toInt ≤ 5 by omega), (show (0 : Int) ≤ ((u_17.1 2) : Int32).toInt ∧ ((u_17.1 2) : Int32).toInt ≤ 1200 by omega), (show (-1 : Int) ≤ ((u_17.1 4) : Int32).toInt ∧ ((u_17.1 4) : Int32).toInt ≤ 12 by omega), trivial⟩, by rw [ht]; exact hP9, va_K.moved hW.alike hK9, hD9⟩, hS.F ht⟩) hS.2.2 dX5_readNewName_78
    have oc_15 := zk_ne rfl (by decide +kernel : ((-1) : Int32).toInt = -1) c_15
    refine lv_aload_n hx hb dX5_readNewName_52 rfl (lv_at hl 1 rfl) ?_
    refine lv_iconst (v := 3) hx hb dX5_readNewName_53 (by decide +kernel) ?_
    refine lv_aload_n hx hb dX5_readNewName_54 rfl (lv_at hl 1 rfl) ?_
    refine va_get (D := (dC, dI)) (ci := 5) (v := .ref r0_0) (C := RX5) (T := TX5) (N := 4) hx hb hts zn_X5_readNewName_X5 hown hK hP 0 rfl rfl 0 (by decide) (hts (.fieldLink RX5 12 "ShortEnough$Parser" "words" "LShortEnough$Words;") zw_X5_readNewName_306) (fun _ h9 => h9) rfl dX5_readNewName_55 ?_
    refine va_get (D := (dC, dI)) (ci := 10) (v := .int v1_5) (C := RX10) (T := TX10) (N := 8) hx hb hts zn_X5_readNewName_X10 hown hK hP 1 rfl rfl 5 (by decide) (hts (.fieldLink RX5 64 "ShortEnough$Words" "start" "I") zw_X5_readNewName_309) (fun _ h9 => h9) rfl dX5_readNewName_58 ?_
    have hPc := hP.sub (ws' := [(h0, .inr (5, [.ref r0_0, .int v0_1, .int v0_2, .int v0_3]))]) [0] rfl
    have hDc := hD.sub (ws' := [(h0, .inr (5, [.ref r0_0, .int v0_1, .int v0_2, .int v0_3]))]) [0] (by decide) rfl
    have hKc := hK.sub (tys' := []) [] rfl
    have hFc := va_free (wc := [(h0, .inr (5, [.ref r0_0, .int v0_1, .int v0_2, .int v0_3]))]) hD hS hA [0] rfl
    refine va_calli (va_runV (As := [.int 3, .int v1_5]) (rest := []) ⟨hx, hb, hml, hown, hts⟩ (zs_X5_stopAt l dC dI h0 3 v1_5 r0_0 v0_1 v0_2 v0_3  H.size) (cwV 2 hts gX5_readNewName_X5_stopAt rfl rfl rfl (by decide +kernel) ⟨Nat.le_of_ble_eq_true rfl, Nat.le_of_ble_eq_true rfl⟩) ⟨fun a U g mk q => by obtain ⟨q0, q1, qP, qK, qD⟩ := q; exact ⟨q0, q1, qP, va_K.moved (u := U) (U := U.calling g mk a) (Vm.Alike.refl U.vm) qK, qD⟩, va_recv hKc hPc (ci := 5) (q0 := 0) rfl rfl, fun U hU hW => ⟨rfl, by rw [hU], by rw [hU]; exact hPc, va_K.moved hW.alike hKc, hDc.weaken (fun _ _ _ _ => trivial)⟩⟩ rfl rfl hl.1 rfl (lv_room (Nat.le_of_ble_eq_true rfl)) dX5_readNewName_61 ⟨Nat.le_of_ble_eq_true rfl, Nat.le_of_ble_eq_true rfl⟩) hS (fun q _ h => hFc q h) hFc (fun r_19 u_20 t H1 locs ht hvm hw_21 hB hz1 hk1 hS => ?_)
    obtain ⟨hP1, hK1, hD1⟩ := hB
    rw [ht] at hP1
    have hK1 := va_K.moved hvm.symm hK1
    obtain ⟨hP, hD⟩ := va_join (wr := [(r0_0, .inr (10, [.ref r1_0, .ref r1_1, .int v1_2, .int v1_3, .int v1_4, .int v1_5, .int v1_6, .int v1_7])), (h1, .inr (9, [.int v2_0, .ref r2_1, .ref r2_2, .ref r2_3, .ref r2_4, .int v2_5, .ref r2_6, .ref r2_7, .ref r2_8])), (r2_1, .inl (k3, 4, .inl f3)), (r2_6, .inr (4, [.int v4_0, .int v4_1, .ref r4_2, .ref r4_3, .ref r4_4, .ref r4_5, .ref r4_6, .ref r4_7, .ref r4_8, .ref r4_9])), (r4_2, .inl (k5, 14, .inl f5)), (r1_1, .inl (k6, 1200, .inl f6)), (r1_0, .inl (k7, 13, .inl f7))]) (w1 := [(h0, .inr (5, [.ref r0_0, .int v0_1, .int (u_20.1 0), .int (u_20.1 1)]))]) hP hD [0] [1, 2, 3, 4, 5, 6, 7] rfl rfl (by decide) (by decide) hk1 hFc hP1 hD1
    have hK := hK
    generalize H1 = H at hP hS ⊢
    have hP := hP.sub (ws' := [(h0, .inr (5, [.ref r0_0, .int v0_1, .int (u_20.1 0), .int (u_20.1 1)])), (r0_0, .inr (10, [.ref r1_0, .ref r1_1, .int v1_2, .int v1_3, .int v1_4, .int v1_5, .int v1_6, .int v1_7])), (h1, .inr (9, [.int v2_0, .ref r2_1, .ref r2_2, .ref r2_3, .ref r2_4, .int v2_5, .ref r2_6, .ref r2_7, .ref r2_8])), (r2_1, .inl (k3, 4, .inl f3)), (r2_6, .inr (4, [.int v4_0, .int v4_1, .ref r4_2, .ref r4_3, .ref r4_4, .ref r4_5, .ref r4_6, .ref r4_7, .ref r4_8, .ref r4_9])), (r4_2, .inl (k5, 14, .inl f5)), (r1_1, .inl (k6, 1200, .inl f6)), (r1_0, .inl (k7, 13, .inl f7))]) [7, 0, 1, 2, 3, 4, 5, 6] rfl
    have hD := hD.sub (ws' := [(h0, .inr (5, [.ref r0_0, .int v0_1, .int (u_20.1 0), .int (u_20.1 1)])), (r0_0, .inr (10, [.ref r1_0, .ref r1_1, .int v1_2, .int v1_3, .int v1_4, .int v1_5, .int v1_6, .int v1_7])), (h1, .inr (9, [.int v2_0, .ref r2_1, .ref r2_2, .ref r2_3, .ref r2_4, .int v2_5, .ref r2_6, .ref r2_7, .ref r2_8])), (r2_1, .inl (k3, 4, .inl f3)), (r2_6, .inr (4, [.int v4_0, .int v4_1, .ref r4_2, .ref r4_3, .ref r4_4, .ref r4_5, .ref r4_6, .ref r4_7, .ref r4_8, .ref r4_9])), (r4_2, .inl (k5, 14, .inl f5)), (r1_1, .inl (k6, 1200, .inl f6)), (r1_0, .inl (k7, 13, .inl f7))]) [7, 0, 1, 2, 3, 4, 5, 6] (by decide) rfl
    have hP : va_P (dC, dI) vwCl [(h0, .inr (5, [.ref r0_0, .int v0_1, .int (u_20.1 0), .int (u_20.1 1)])), (r0_0, .inr (10, [.ref r1_0, .ref r1_1, .int v1_2, .int v1_3, .int v1_4, .int v1_5, .int v1_6, .int v1_7])), (h1, .inr (9, [.int v2_0, .ref r2_1, .ref r2_2, .ref r2_3, .ref r2_4, .int v2_5, .ref r2_6, .ref r2_7, .ref r2_8])), (r2_1, .inl (k3, 4, .inl f3)), (r2_6, .inr (4, [.int v4_0, .int v4_1, .ref r4_2, .ref r4_3, .ref r4_4, .ref r4_5, .ref r4_6, .ref r4_7, .ref r4_8, .ref r4_9])), (r4_2, .inl (k5, 14, .inl f5)), (r1_1, .inl (k6, 1200, .inl f6)), (r1_0, .inl (k7, 13, .inl f7))] H := hP
    have hD : va_D A [(h0, .inr (5, [.ref r0_0, .int v0_1, .int (u_20.1 0), .int (u_20.1 1)])), (r0_0, .inr (10, [.ref r1_0, .ref r1_1, .int v1_2, .int v1_3, .int v1_4, .int v1_5, .int v1_6, .int v1_7])), (h1, .inr (9, [.int v2_0, .ref r2_1, .ref r2_2, .ref r2_3, .ref r2_4, .int v2_5, .ref r2_6, .ref r2_7, .ref r2_8])), (r2_1, .inl (k3, 4, .inl f3)), (r2_6, .inr (4, [.int v4_0, .int v4_1, .ref r4_2, .ref r4_3, .ref r4_4, .ref r4_5, .ref r4_6, .ref r4_7, .ref r4_8, .ref r4_9])), (r4_2, .inl (k5, 14, .inl f5)), (r1_1, .inl (k6, 1200, .inl f6)), (r1_0, .inl (k7, 13, .inl f7))] := hD
    obtain ⟨hr_19, -⟩ := hw_21
    have hP9 := hP.sub (ws' := [(h0, .inr (5, [.ref r0_0, .int v0_1, .int (u_20.1 0), .int (u_20.1 1)])), (r0_0, .inr (10, [.ref r1_0, .ref r1_1, .int v1_2, .int v1_3, .int v1_4, .int v1_5, .int v1_6, .int v1_7])), (h1, .inr (9, [.int v2_0, .ref r2_1, .ref r2_2, .ref r2_3, .ref r2_4, .int v2_5, .ref r2_6, .ref r2_7, .ref r2_8])), (r2_1, .inl (k3, 4, .inl f3)), (r2_6, .inr (4, [.int v4_0, .int v4_1, .ref r4_2, .ref r4_3, .ref r4_4, .ref r4_5, .ref r4_6, .ref r4_7, .ref r4_8, .ref r4_9])), (r4_2, .inl (k5, 14, .inl f5)), (r1_1, .inl (k6, 1200, .inl f6)), (r1_0, .inl (k7, 13, .inl f7))]) [0, 1, 2, 3, 4, 5, 6, 7] rfl
    have hD9 := hD.sub (ws' := [(h0, .inr (5, [.ref r0_0, .int v0_1, .int (u_20.1 0), .int (u_20.1 1)])), (r0_0, .inr (10, [.ref r1_0, .ref r1_1, .int v1_2, .int v1_3, .int v1_4, .int v1_5, .int v1_6, .int v1_7])), (h1, .inr (9, [.int v2_0, .ref r2_1, .ref r2_2, .ref r2_3, .ref r2_4, .int v2_5, .ref r2_6, .ref r2_7, .ref r2_8])), (r2_1, .inl (k3, 4, .inl f3)), (r2_6, .inr (4, [.int v4_0, .int v4_1, .ref r4_2, .ref r4_3, .ref r4_4, .ref r4_5, .ref r4_6, .ref r4_7, .ref r4_8, .ref r4_9])), (r4_2, .inl (k5, 14, .inl f5)), (r1_1, .inl (k6, 1200, .inl f6)), (r1_0, .inl (k7, 13, .inl f7))]) [0, 1, 2, 3, 4, 5, 6, 7] (by decide) rfl
    have hK9 := hK.sub (tys' := [(k3, .int), (k5, .int), (k6, .byte), (k7, .int)]) [0, 1, 2, 3] rfl
    rw [← hQ]
    exact W.zret (v := r_19) hx hb hr (zn_b (by omega)) (fun t ht hW => ⟨⟨r_19, ((fun k => ([v0_1, (u_20.1 0), (u_20.1 1), v1_3, v1_4, v1_5, v1_6, v1_7] : List Int32).getD k 0), (fun k => ([] : List (Nat → Int32)).getD k (fun _ => 0)), (fun k => ([] : List (Nat → Int64)).getD k (fun _ => 0))), rfl, ⟨(show (0 : Int) ≤ (r_19 : Int32).toInt ∧ (r_19 : Int32).toInt ≤ 1 by omega), (show (0 : Int) ≤ (v1_3 : Int32).toInt ∧ (v1_3 : Int32).toInt ≤ 1200 by omega), (show (0 : Int) ≤ (v1_4 : Int32).toInt ∧ (v1_4 : Int32).toInt ≤ 5 by omega), (show (0 : Int) ≤ (v1_5 : Int32).toInt ∧ (v1_5 : Int32).toInt ≤ 1200 by omega), (show (-1 : Int) ≤ (v1_7 : Int32).toInt ∧ (v1_7 : Int32).toInt ≤ 12 by omega), trivial⟩, by rw [ht]; exact hP9, va_K.moved hW.alike hK9, hD9⟩, hS.F ht⟩) hS.2.2 dX5_readNewName_64
  have oc_4 := zk_eq rfl (by decide +kernel : (0 : Int32).toInt = 0) c_4
  refine lv_aload_n hx hb dX5_readNewName_10 rfl (lv_at hl 0 rfl) ?_
  refine lv_iconst (v := 1) hx hb dX5_readNewName_11 (by decide +kernel) ?_
  refine lv_aload_n hx hb dX5_readNewName_12 rfl (lv_at hl 0 rfl) ?_
  refine va_get (D := (dC, dI)) (ci := 5) (v := .ref r0_0) (C := RX5) (T := TX5) (N := 4) hx hb hts zn_X5_readNewName_X5 hown hK hP 0 rfl rfl 0 (by decide) (hts (.fieldLink RX5 12 "ShortEnough$Parser" "words" "LShortEnough$Words;") zw_X5_readNewName_306) (fun _ h9 => h9) rfl dX5_readNewName_13 ?_
  refine va_get (D := (dC, dI)) (ci := 10) (v := .int v1_5) (C := RX10) (T := TX10) (N := 8) hx hb hts zn_X5_readNewName_X10 hown hK hP 1 rfl rfl 5 (by decide) (hts (.fieldLink RX5 64 "ShortEnough$Words" "start" "I") zw_X5_readNewName_309) (fun _ h9 => h9) rfl dX5_readNewName_16 ?_
  have hPc := hP.sub (ws' := [(h0, .inr (5, [.ref r0_0, .int v0_1, .int v0_2, .int v0_3]))]) [0] rfl
  have hDc := hD.sub (ws' := [(h0, .inr (5, [.ref r0_0, .int v0_1, .int v0_2, .int v0_3]))]) [0] (by decide) rfl
  have hKc := hK.sub (tys' := []) [] rfl
  have hFc := va_free (wc := [(h0, .inr (5, [.ref r0_0, .int v0_1, .int v0_2, .int v0_3]))]) hD hS hA [0] rfl
  refine va_calli (va_runV (As := [.int 1, .int v1_5]) (rest := []) ⟨hx, hb, hml, hown, hts⟩ (zs_X5_stopAt l dC dI h0 1 v1_5 r0_0 v0_1 v0_2 v0_3  H.size) (cwV 2 hts gX5_readNewName_X5_stopAt rfl rfl rfl (by decide +kernel) ⟨Nat.le_of_ble_eq_true rfl, Nat.le_of_ble_eq_true rfl⟩) ⟨fun a U g mk q => by obtain ⟨q0, q1, qP, qK, qD⟩ := q; exact ⟨q0, q1, qP, va_K.moved (u := U) (U := U.calling g mk a) (Vm.Alike.refl U.vm) qK, qD⟩, va_recv hKc hPc (ci := 5) (q0 := 0) rfl rfl, fun U hU hW => ⟨rfl, by rw [hU], by rw [hU]; exact hPc, va_K.moved hW.alike hKc, hDc.weaken (fun _ _ _ _ => trivial)⟩⟩ rfl rfl hl.1 rfl (lv_room (Nat.le_of_ble_eq_true rfl)) dX5_readNewName_19 ⟨Nat.le_of_ble_eq_true rfl, Nat.le_of_ble_eq_true rfl⟩) hS (fun q _ h => hFc q h) hFc (fun r_22 u_23 t H1 locs ht hvm hw_24 hB hz1 hk1 hS => ?_)
  obtain ⟨hP1, hK1, hD1⟩ := hB
  rw [ht] at hP1
  have hK1 := va_K.moved hvm.symm hK1
  obtain ⟨hP, hD⟩ := va_join (wr := [(r0_0, .inr (10, [.ref r1_0, .ref r1_1, .int v1_2, .int v1_3, .int v1_4, .int v1_5, .int v1_6, .int v1_7])), (h1, .inr (9, [.int v2_0, .ref r2_1, .ref r2_2, .ref r2_3, .ref r2_4, .int v2_5, .ref r2_6, .ref r2_7, .ref r2_8])), (r2_1, .inl (k3, 4, .inl f3)), (r2_6, .inr (4, [.int v4_0, .int v4_1, .ref r4_2, .ref r4_3, .ref r4_4, .ref r4_5, .ref r4_6, .ref r4_7, .ref r4_8, .ref r4_9])), (r4_2, .inl (k5, 14, .inl f5)), (r1_1, .inl (k6, 1200, .inl f6)), (r1_0, .inl (k7, 13, .inl f7))]) (w1 := [(h0, .inr (5, [.ref r0_0, .int v0_1, .int (u_23.1 0), .int (u_23.1 1)]))]) hP hD [0] [1, 2, 3, 4, 5, 6, 7] rfl rfl (by decide) (by decide) hk1 hFc hP1 hD1
  have hK := hK
  generalize H1 = H at hP hS ⊢
  have hP := hP.sub (ws' := [(h0, .inr (5, [.ref r0_0, .int v0_1, .int (u_23.1 0), .int (u_23.1 1)])), (r0_0, .inr (10, [.ref r1_0, .ref r1_1, .int v1_2, .int v1_3, .int v1_4, .int v1_5, .int v1_6, .int v1_7])), (h1, .inr (9, [.int v2_0, .ref r2_1, .ref r2_2, .ref r2_3, .ref r2_4, .int v2_5, .ref r2_6, .ref r2_7, .ref r2_8])), (r2_1, .inl (k3, 4, .inl f3)), (r2_6, .inr (4, [.int v4_0, .int v4_1, .ref r4_2, .ref r4_3, .ref r4_4, .ref r4_5, .ref r4_6, .ref r4_7, .ref r4_8, .ref r4_9])), (r4_2, .inl (k5, 14, .inl f5)), (r1_1, .inl (k6, 1200, .inl f6)), (r1_0, .inl (k7, 13, .inl f7))]) [7, 0, 1, 2, 3, 4, 5, 6] rfl
  have hD := hD.sub (ws' := [(h0, .inr (5, [.ref r0_0, .int v0_1, .int (u_23.1 0), .int (u_23.1 1)])), (r0_0, .inr (10, [.ref r1_0, .ref r1_1, .int v1_2, .int v1_3, .int v1_4, .int v1_5, .int v1_6, .int v1_7])), (h1, .inr (9, [.int v2_0, .ref r2_1, .ref r2_2, .ref r2_3, .ref r2_4, .int v2_5, .ref r2_6, .ref r2_7, .ref r2_8])), (r2_1, .inl (k3, 4, .inl f3)), (r2_6, .inr (4, [.int v4_0, .int v4_1, .ref r4_2, .ref r4_3, .ref r4_4, .ref r4_5, .ref r4_6, .ref r4_7, .ref r4_8, .ref r4_9])), (r4_2, .inl (k5, 14, .inl f5)), (r1_1, .inl (k6, 1200, .inl f6)), (r1_0, .inl (k7, 13, .inl f7))]) [7, 0, 1, 2, 3, 4, 5, 6] (by decide) rfl
  have hP : va_P (dC, dI) vwCl [(h0, .inr (5, [.ref r0_0, .int v0_1, .int (u_23.1 0), .int (u_23.1 1)])), (r0_0, .inr (10, [.ref r1_0, .ref r1_1, .int v1_2, .int v1_3, .int v1_4, .int v1_5, .int v1_6, .int v1_7])), (h1, .inr (9, [.int v2_0, .ref r2_1, .ref r2_2, .ref r2_3, .ref r2_4, .int v2_5, .ref r2_6, .ref r2_7, .ref r2_8])), (r2_1, .inl (k3, 4, .inl f3)), (r2_6, .inr (4, [.int v4_0, .int v4_1, .ref r4_2, .ref r4_3, .ref r4_4, .ref r4_5, .ref r4_6, .ref r4_7, .ref r4_8, .ref r4_9])), (r4_2, .inl (k5, 14, .inl f5)), (r1_1, .inl (k6, 1200, .inl f6)), (r1_0, .inl (k7, 13, .inl f7))] H := hP
  have hD : va_D A [(h0, .inr (5, [.ref r0_0, .int v0_1, .int (u_23.1 0), .int (u_23.1 1)])), (r0_0, .inr (10, [.ref r1_0, .ref r1_1, .int v1_2, .int v1_3, .int v1_4, .int v1_5, .int v1_6, .int v1_7])), (h1, .inr (9, [.int v2_0, .ref r2_1, .ref r2_2, .ref r2_3, .ref r2_4, .int v2_5, .ref r2_6, .ref r2_7, .ref r2_8])), (r2_1, .inl (k3, 4, .inl f3)), (r2_6, .inr (4, [.int v4_0, .int v4_1, .ref r4_2, .ref r4_3, .ref r4_4, .ref r4_5, .ref r4_6, .ref r4_7, .ref r4_8, .ref r4_9])), (r4_2, .inl (k5, 14, .inl f5)), (r1_1, .inl (k6, 1200, .inl f6)), (r1_0, .inl (k7, 13, .inl f7))] := hD
  obtain ⟨hr_22, -⟩ := hw_24
  have hP9 := hP.sub (ws' := [(h0, .inr (5, [.ref r0_0, .int v0_1, .int (u_23.1 0), .int (u_23.1 1)])), (r0_0, .inr (10, [.ref r1_0, .ref r1_1, .int v1_2, .int v1_3, .int v1_4, .int v1_5, .int v1_6, .int v1_7])), (h1, .inr (9, [.int v2_0, .ref r2_1, .ref r2_2, .ref r2_3, .ref r2_4, .int v2_5, .ref r2_6, .ref r2_7, .ref r2_8])), (r2_1, .inl (k3, 4, .inl f3)), (r2_6, .inr (4, [.int v4_0, .int v4_1, .ref r4_2, .ref r4_3, .ref r4_4, .ref r4_5, .ref r4_6, .ref r4_7, .ref r4_8, .ref r4_9])), (r4_2, .inl (k5, 14, .inl f5)), (r1_1, .inl (k6, 1200, .inl f6)), (r1_0, .inl (k7, 13, .inl f7))]) [0, 1, 2, 3, 4, 5, 6, 7] rfl
  have hD9 := hD.sub (ws' := [(h0, .inr (5, [.ref r0_0, .int v0_1, .int (u_23.1 0), .int (u_23.1 1)])), (r0_0, .inr (10, [.ref r1_0, .ref r1_1, .int v1_2, .int v1_3, .int v1_4, .int v1_5, .int v1_6, .int v1_7])), (h1, .inr (9, [.int v2_0, .ref r2_1, .ref r2_2, .ref r2_3, .ref r2_4, .int v2_5, .ref r2_6, .ref r2_7, .ref r2_8])), (r2_1, .inl (k3, 4, .inl f3)), (r2_6, .inr (4, [.int v4_0, .int v4_1, .ref r4_2, .ref r4_3, .ref r4_4, .ref r4_5, .ref r4_6, .ref r4_7, .ref r4_8, .ref r4_9])), (r4_2, .inl (k5, 14, .inl f5)), (r1_1, .inl (k6, 1200, .inl f6)), (r1_0, .inl (k7, 13, .inl f7))]) [0, 1, 2, 3, 4, 5, 6, 7] (by decide) rfl
  have hK9 := hK.sub (tys' := [(k3, .int), (k5, .int), (k6, .byte), (k7, .int)]) [0, 1, 2, 3] rfl
  rw [← hQ]
  exact W.zret (v := r_22) hx hb hr (zn_b (by omega)) (fun t ht hW => ⟨⟨r_22, ((fun k => ([v0_1, (u_23.1 0), (u_23.1 1), v1_3, v1_4, v1_5, v1_6, v1_7] : List Int32).getD k 0), (fun k => ([] : List (Nat → Int32)).getD k (fun _ => 0)), (fun k => ([] : List (Nat → Int64)).getD k (fun _ => 0))), rfl, ⟨(show (0 : Int) ≤ (r_22 : Int32).toInt ∧ (r_22 : Int32).toInt ≤ 1 by omega), (show (0 : Int) ≤ (v1_3 : Int32).toInt ∧ (v1_3 : Int32).toInt ≤ 1200 by omega), (show (0 : Int) ≤ (v1_4 : Int32).toInt ∧ (v1_4 : Int32).toInt ≤ 5 by omega), (show (0 : Int) ≤ (v1_5 : Int32).toInt ∧ (v1_5 : Int32).toInt ≤ 1200 by omega), (show (-1 : Int) ≤ (v1_7 : Int32).toInt ∧ (v1_7 : Int32).toInt ≤ 12 by omega), trivial⟩, by rw [ht]; exact hP9, va_K.moved hW.alike hK9, hD9⟩, hS.F ht⟩) hS.2.2 dX5_readNewName_22
set_option maxHeartbeats 4000000 in
set_option maxRecDepth 100000 in
theorem zs_X5_readKnown (l : Launch) (dC : Nat → ClassId) (dI : Nat → Nat → Nat) (h0 : Nat) (p1 : Int32) (r0_0 : Nat) (v0_1 : Int32) (v0_2 : Int32) (v0_3 : Int32) (r1_0 : Nat) (r1_1 : Nat) (v1_2 : Int32) (v1_3 : Int32) (v1_4 : Int32) (v1_5 : Int32) (v1_6 : Int32) (v1_7 : Int32) (k2 : Nat) (f2 : Nat → Int32) (k3 : Nat) (f3 : Nat → Int32) (hq_v1_2 : (0 : Int) ≤ v1_2.toInt ∧ v1_2.toInt ≤ 1200) (hq_v1_3 : (0 : Int) ≤ v1_3.toInt ∧ v1_3.toInt ≤ 1200) (hq_v1_4 : (0 : Int) ≤ v1_4.toInt ∧ v1_4.toInt ≤ 5) (hq_v1_5 : (0 : Int) ≤ v1_5.toInt ∧ v1_5.toInt ≤ 1200) (hq_v1_7 : (-1 : Int) ≤ v1_7.toInt ∧ v1_7.toInt ≤ 12) (sz : Nat) : Met l yX5_readKnown wsX5_readKnown ({ frames := 2, cells := 0, slots := 0, locals := 46 }) (va_Pc [.ref h0, .int p1] (fun U => U.heap.size = sz ∧ va_P (dC, dI) vwCl [(h0, .inr (5, [.ref r0_0, .int v0_1, .int v0_2, .int v0_3])), (r0_0, .inr (10, [.ref r1_0, .ref r1_1, .int v1_2, .int v1_3, .int v1_4, .int v1_5, .int v1_6, .int v1_7])), (r1_1, .inl (k2, 1200, .inl f2)), (r1_0, .inl (k3, 13, .inl f3))] U.heap ∧ va_K (dC, dI) vwCl [(k2, .byte), (k3, .int)] U ∧ va_D (fun _ => True) [(h0, .inr (5, [.ref r0_0, .int v0_1, .int v0_2, .int v0_3])), (r0_0, .inr (10, [.ref r1_0, .ref r1_1, .int v1_2, .int v1_3, .int v1_4, .int v1_5, .int v1_6, .int v1_7])), (r1_1, .inl (k2, 1200, .inl f2)), (r1_0, .inl (k3, 13, .inl f3))])) (va_Qi (fun (r : Int32) (u : zV) => ((0 : Int) ≤ r.toInt ∧ r.toInt ≤ 1) ∧ ((0 : Int) ≤ (u.1 3).toInt ∧ (u.1 3).toInt ≤ 1200) ∧ ((0 : Int) ≤ (u.1 4).toInt ∧ (u.1 4).toInt ≤ 5) ∧ ((0 : Int) ≤ (u.1 5).toInt ∧ (u.1 5).toInt ≤ 1200) ∧ ((-1 : Int) ≤ (u.1 7).toInt ∧ (u.1 7).toInt ≤ 12) ∧ True) (fun u t => va_P (dC, dI) vwCl [(h0, .inr (5, [.ref r0_0, .int (u.1 0), .int (u.1 1), .int (u.1 2)])), (r0_0, .inr (10, [.ref r1_0, .ref r1_1, .int v1_2, .int (u.1 3), .int (u.1 4), .int (u.1 5), .int (u.1 6), .int (u.1 7)])), (r1_1, .inl (k2, 1200, .inl f2)), (r1_0, .inl (k3, 13, .inl f3))] t.heap ∧ va_K (dC, dI) vwCl [(k2, .byte), (k3, .int)] t ∧ va_D (va_A [(h0, .inr (5, [.ref r0_0, .int v0_1, .int v0_2, .int v0_3])), (r0_0, .inr (10, [.ref r1_0, .ref r1_1, .int v1_2, .int v1_3, .int v1_4, .int v1_5, .int v1_6, .int v1_7])), (r1_1, .inl (k2, 1200, .inl f2)), (r1_0, .inl (k3, 13, .inl f3))] sz) [(h0, .inr (5, [.ref r0_0, .int (u.1 0), .int (u.1 1), .int (u.1 2)])), (r0_0, .inr (10, [.ref r1_0, .ref r1_1, .int v1_2, .int (u.1 3), .int (u.1 4), .int (u.1 5), .int (u.1 6), .int (u.1 7)])), (r1_1, .inl (k2, 1200, .inl f2)), (r1_0, .inl (k3, 13, .inl f3))]) (va_A [(h0, .inr (5, [.ref r0_0, .int v0_1, .int v0_2, .int v0_3])), (r0_0, .inr (10, [.ref r1_0, .ref r1_1, .int v1_2, .int v1_3, .int v1_4, .int v1_5, .int v1_6, .int v1_7])), (r1_1, .inl (k2, 1200, .inl f2)), (r1_0, .inl (k3, 13, .inl f3))] sz)) 0 0 (va_A [(h0, .inr (5, [.ref r0_0, .int v0_1, .int v0_2, .int v0_3])), (r0_0, .inr (10, [.ref r1_0, .ref r1_1, .int v1_2, .int v1_3, .int v1_4, .int v1_5, .int v1_6, .int v1_7])), (r1_1, .inl (k2, 1200, .inl f2)), (r1_0, .inl (k3, 13, .inl f3))] sz) := by
  refine Met.ofW (cc := cX5_readKnown) (maxL := 2) (ret := (some .boolean)) (by decide +kernel) rfl ?_
  intro p e s m args below meth c s₁ B hml hv
  obtain ⟨rfl, hsz, hP, hK, hD0⟩ := hv
  have hx := B.exec
  have hb := B.bytes
  have hr := B.returns
  have hts := atoms_spec (ws := wsX5_readKnown) B.pre
  have hown : s.vm.findClass RX5 = some m.cls := findClass_of_methodNamed B.named
  have hlocks := B.notSynchronized
  subst hsz
  have hD := hD0.self (sz := s.heap.size)
  generalize hAe : va_A [(h0, .inr (5, [.ref r0_0, .int v0_1, .int v0_2, .int v0_3])), (r0_0, .inr (10, [.ref r1_0, .ref r1_1, .int v1_2, .int v1_3, .int v1_4, .int v1_5, .int v1_6, .int v1_7])), (r1_1, .inl (k2, 1200, .inl f2)), (r1_0, .inl (k3, 13, .inl f3))] s.heap.size = A at hD ⊢
  have hA : ∀ q : Nat, s.heap.size ≤ q → A q := fun q h => by rw [← hAe]; exact Or.inr h
  have hS : va_S A s.heap s.heap [] := va_S.rf
  have hP : va_P (dC, dI) vwCl [(h0, .inr (5, [.ref r0_0, .int v0_1, .int v0_2, .int v0_3])), (r0_0, .inr (10, [.ref r1_0, .ref r1_1, .int v1_2, .int v1_3, .int v1_4, .int v1_5, .int v1_6, .int v1_7])), (r1_1, .inl (k2, 1200, .inl f2)), (r1_0, .inl (k3, 13, .inl f3))] s.heap := hP
  have hl := lv_entry ([.ref h0, .int p1]) (n := 2) (Nat.le_of_ble_eq_true rfl)
  rw [lg_entry_eq]
  generalize (lg_sl ([.ref h0, .int p1]) ++ List.replicate (2 - (lg_sl ([.ref h0, .int p1])).length) Slot.unset).toArray = ls at hl ⊢
  have hl : lv_has ls 2 [(0, .ref h0), (1, .int p1)] := hl
  generalize hQ : MQ below (va_Qi (fun (r : Int32) (u : zV) => ((0 : Int) ≤ r.toInt ∧ r.toInt ≤ 1) ∧ ((0 : Int) ≤ (u.1 3).toInt ∧ (u.1 3).toInt ≤ 1200) ∧ ((0 : Int) ≤ (u.1 4).toInt ∧ (u.1 4).toInt ≤ 5) ∧ ((0 : Int) ≤ (u.1 5).toInt ∧ (u.1 5).toInt ≤ 1200) ∧ ((-1 : Int) ≤ (u.1 7).toInt ∧ (u.1 7).toInt ≤ 12) ∧ True) (fun u t => va_P (dC, dI) vwCl [(h0, .inr (5, [.ref r0_0, .int (u.1 0), .int (u.1 1), .int (u.1 2)])), (r0_0, .inr (10, [.ref r1_0, .ref r1_1, .int v1_2, .int (u.1 3), .int (u.1 4), .int (u.1 5), .int (u.1 6), .int (u.1 7)])), (r1_1, .inl (k2, 1200, .inl f2)), (r1_0, .inl (k3, 13, .inl f3))] t.heap ∧ va_K (dC, dI) vwCl [(k2, .byte), (k3, .int)] t ∧ va_D A [(h0, .inr (5, [.ref r0_0, .int (u.1 0), .int (u.1 1), .int (u.1 2)])), (r0_0, .inr (10, [.ref r1_0, .ref r1_1, .int v1_2, .int (u.1 3), .int (u.1 4), .int (u.1 5), .int (u.1 6), .int (u.1 7)])), (r1_1, .inl (k2, 1200, .inl f2)), (r1_0, .inl (k3, 13, .inl f3))]) A) ([.ref h0, .int p1] : List Value).toArray s 0 0 A = Q
  refine lv_aload_n hx hb dX5_readKnown_0 rfl (lv_at hl 0 rfl) ?_
  refine va_get (D := (dC, dI)) (ci := 5) (v := .ref r0_0) (C := RX5) (T := TX5) (N := 4) hx hb hts zn_X5_readKnown_X5 hown hK hP 0 rfl rfl 0 (by decide) (hts (.fieldLink RX5 12 "ShortEnough$Parser" "words" "LShortEnough$Words;") zw_X5_readKnown_314) (fun _ h9 => h9) rfl dX5_readKnown_1 ?_
  have hPc := hP.sub (ws' := [(r0_0, .inr (10, [.ref r1_0, .ref r1_1, .int v1_2, .int v1_3, .int v1_4, .int v1_5, .int v1_6, .int v1_7]))]) [1] rfl
  have hDc := hD.sub (ws' := [(r0_0, .inr (10, [.ref r1_0, .ref r1_1, .int v1_2, .int v1_3, .int v1_4, .int v1_5, .int v1_6, .int v1_7]))]) [1] (by decide) rfl
  have hKc := hK.sub (tys' := []) [] rfl
  have hFc := va_free (wc := [(r0_0, .inr (10, [.ref r1_0, .ref r1_1, .int v1_2, .int v1_3, .int v1_4, .int v1_5, .int v1_6, .int v1_7]))]) hD hS hA [1] rfl
  refine va_calli (va_runV (As := []) (rest := []) ⟨hx, hb, hml, hown, hts⟩ (zs_X10_isName l dC dI r0_0 r1_0 r1_1 v1_2 v1_3 v1_4 v1_5 v1_6 v1_7 (by omega) (by omega) (by omega) (by omega) (by omega) s.heap.size) (cwV 0 hts gX5_readKnown_X10_isName rfl rfl rfl (by decide +kernel) ⟨Nat.le_of_ble_eq_true rfl, Nat.le_of_ble_eq_true rfl⟩) ⟨fun a U g mk q => by obtain ⟨q0, q1, qP, qK, qD⟩ := q; exact ⟨q0, q1, qP, va_K.moved (u := U) (U := U.calling g mk a) (Vm.Alike.refl U.vm) qK, qD⟩, va_recv hKc hPc (ci := 10) (q0 := 0) rfl rfl, fun U hU hW => ⟨rfl, by rw [hU], by rw [hU]; exact hPc, va_K.moved hW.alike hKc, hDc.weaken (fun _ _ _ _ => trivial)⟩⟩ rfl rfl hl.1 rfl (lv_room (Nat.le_of_ble_eq_true rfl)) dX5_readKnown_4 ⟨Nat.le_of_ble_eq_true rfl, Nat.le_of_ble_eq_true rfl⟩) hS (fun q _ h => hFc q h) hFc (fun r_1 u_2 t H1 locs ht hvm hw_3 hB hz1 hk1 hS => ?_)
  obtain ⟨hP1, hK1, hD1⟩ := hB
  rw [ht] at hP1
  have hK1 := va_K.moved hvm.symm hK1
  obtain ⟨hP, hD⟩ := va_join (wr := [(h0, .inr (5, [.ref r0_0, .int v0_1, .int v0_2, .int v0_3])), (r1_1, .inl (k2, 1200, .inl f2)), (r1_0, .inl (k3, 13, .inl f3))]) (w1 := [(r0_0, .inr (10, [.ref r1_0, .ref r1_1, .int v1_2, .int v1_3, .int v1_4, .int v1_5, .int v1_6, .int v1_7]))]) hP hD [1] [0, 2, 3] rfl rfl (by decide) (by decide) hk1 hFc hP1 hD1
  have hK := hK
  generalize H1 = H at hP hS ⊢
  have hP := hP.sub (ws' := [(h0, .inr (5, [.ref r0_0, .int v0_1, .int v0_2, .int v0_3])), (r0_0, .inr (10, [.ref r1_0, .ref r1_1, .int v1_2, .int v1_3, .int v1_4, .int v1_5, .int v1_6, .int v1_7])), (r1_1, .inl (k2, 1200, .inl f2)), (r1_0, .inl (k3, 13, .inl f3))]) [0, 3, 1, 2] rfl
  have hD := hD.sub (ws' := [(h0, .inr (5, [.ref r0_0, .int v0_1, .int v0_2, .int v0_3])), (r0_0, .inr (10, [.ref r1_0, .ref r1_1, .int v1_2, .int v1_3, .int v1_4, .int v1_5, .int v1_6, .int v1_7])), (r1_1, .inl (k2, 1200, .inl f2)), (r1_0, .inl (k3, 13, .inl f3))]) [0, 3, 1, 2] (by decide) rfl
  have hP : va_P (dC, dI) vwCl [(h0, .inr (5, [.ref r0_0, .int v0_1, .int v0_2, .int v0_3])), (r0_0, .inr (10, [.ref r1_0, .ref r1_1, .int v1_2, .int v1_3, .int v1_4, .int v1_5, .int v1_6, .int v1_7])), (r1_1, .inl (k2, 1200, .inl f2)), (r1_0, .inl (k3, 13, .inl f3))] H := hP
  have hD : va_D A [(h0, .inr (5, [.ref r0_0, .int v0_1, .int v0_2, .int v0_3])), (r0_0, .inr (10, [.ref r1_0, .ref r1_1, .int v1_2, .int v1_3, .int v1_4, .int v1_5, .int v1_6, .int v1_7])), (r1_1, .inl (k2, 1200, .inl f2)), (r1_0, .inl (k3, 13, .inl f3))] := hD
  obtain ⟨hr_1, -⟩ := hw_3
  refine lv_if_ne (tgt := 23) hx hb dX5_readKnown_7 (by decide) (fun c_4 => ?_) (fun c_4 => ?_)
  · have oc_4 := zk_ne rfl (by decide +kernel : (0 : Int32).toInt = 0) c_4
    refine lv_iload_n hx hb dX5_readKnown_23 rfl (lv_at hl 1 rfl) ?_
    refine lv_iconst (v := (-1)) hx hb dX5_readKnown_24 (by decide +kernel) ?_
    refine lv_icmp_ne (tgt := 41) hx hb dX5_readKnown_25 (by decide) (fun c_5 => ?_) (fun c_5 => ?_)
    · have oc_5 := zk_ne rfl (by decide +kernel : ((-1) : Int32).toInt = -1) c_5
      refine lv_aload_n hx hb dX5_readKnown_41 rfl (lv_at hl 0 rfl) ?_
      refine lv_iload_n hx hb dX5_readKnown_42 rfl (lv_at hl 1 rfl) ?_
      refine va_put (D := (dC, dI)) (ci := 5) (v := .int p1) (ty := .int) (C := RX5) (T := TX5) (N := 4) hx hb hts zn_X5_readKnown_X5 tyX5 tyX5_ok nmX5 hown hK hP hD hS 0 rfl rfl 1 (by decide) (hts (.fieldLink RX5 102 "ShortEnough$Parser" "got" "I") zw_X5_readKnown_315) (fun _ h9 => h9) rfl (by decide +kernel) rfl rfl (Nat.le_of_ble_eq_true rfl) dX5_readKnown_43 (fun H locs hP hD hS => ?_)
      have hP : va_P (dC, dI) vwCl [(h0, .inr (5, [.ref r0_0, .int p1, .int v0_2, .int v0_3])), (r0_0, .inr (10, [.ref r1_0, .ref r1_1, .int v1_2, .int v1_3, .int v1_4, .int v1_5, .int v1_6, .int v1_7])), (r1_1, .inl (k2, 1200, .inl f2)), (r1_0, .inl (k3, 13, .inl f3))] H := hP
      have hD : va_D A [(h0, .inr (5, [.ref r0_0, .int p1, .int v0_2, .int v0_3])), (r0_0, .inr (10, [.ref r1_0, .ref r1_1, .int v1_2, .int v1_3, .int v1_4, .int v1_5, .int v1_6, .int v1_7])), (r1_1, .inl (k2, 1200, .inl f2)), (r1_0, .inl (k3, 13, .inl f3))] := hD
      refine lv_aload_n hx hb dX5_readKnown_46 rfl (lv_at hl 0 rfl) ?_
      refine va_get (D := (dC, dI)) (ci := 5) (v := .ref r0_0) (C := RX5) (T := TX5) (N := 4) hx hb hts zn_X5_readKnown_X5 hown hK hP 0 rfl rfl 0 (by decide) (hts (.fieldLink RX5 12 "ShortEnough$Parser" "words" "LShortEnough$Words;") zw_X5_readKnown_314) (fun _ h9 => h9) rfl dX5_readKnown_47 ?_
      have hPc := hP.sub (ws' := [(r0_0, .inr (10, [.ref r1_0, .ref r1_1, .int v1_2, .int v1_3, .int v1_4, .int v1_5, .int v1_6, .int v1_7])), (r1_1, .inl (k2, 1200, .inl f2)), (r1_0, .inl (k3, 13, .inl f3))]) [1, 2, 3] rfl
      have hDc := hD.sub (ws' := [(r0_0, .inr (10, [.ref r1_0, .ref r1_1, .int v1_2, .int v1_3, .int v1_4, .int v1_5, .int v1_6, .int v1_7])), (r1_1, .inl (k2, 1200, .inl f2)), (r1_0, .inl (k3, 13, .inl f3))]) [1, 2, 3] (by decide) rfl
      have hKc := hK.sub (tys' := [(k2, .byte), (k3, .int)]) [0, 1] rfl
      have hFc := va_free (wc := [(r0_0, .inr (10, [.ref r1_0, .ref r1_1, .int v1_2, .int v1_3, .int v1_4, .int v1_5, .int v1_6, .int v1_7])), (r1_1, .inl (k2, 1200, .inl f2)), (r1_0, .inl (k3, 13, .inl f3))]) hD hS hA [1, 2, 3] rfl
      refine va_callv (va_runV (As := []) (rest := []) ⟨hx, hb, hml, hown, hts⟩ (zs_X10_advance l dC dI r0_0 r1_0 r1_1 v1_2 v1_3 v1_4 v1_5 v1_6 v1_7 k2 f2 k3 f3 (by omega) (by omega) (by omega) (by omega) (by omega) H.size) (cwV 0 hts gX5_readKnown_X10_advance rfl rfl rfl (by decide +kernel) ⟨Nat.le_of_ble_eq_true rfl, Nat.le_of_ble_eq_true rfl⟩) ⟨fun a U g mk q => by obtain ⟨q0, q1, qP, qK, qD⟩ := q; exact ⟨q0, q1, qP, va_K.moved (u := U) (U := U.calling g mk a) (Vm.Alike.refl U.vm) qK, qD⟩, va_recv hKc hPc (ci := 10) (q0 := 0) rfl rfl, fun U hU hW => ⟨rfl, by rw [hU], by rw [hU]; exact hPc, va_K.moved hW.alike hKc, hDc.weaken (fun _ _ _ _ => trivial)⟩⟩ rfl rfl hl.1 rfl (lv_room (Nat.le_of_ble_eq_true rfl)) dX5_readKnown_50 ⟨Nat.le_of_ble_eq_true rfl, Nat.le_of_ble_eq_true rfl⟩) hS (fun q _ h => hFc q h) hFc (fun u_7 t H1 locs ht hvm hw_8 hB hz1 hk1 hS => ?_)
      obtain ⟨hP1, hK1, hD1⟩ := hB
      rw [ht] at hP1
      have hK1 := va_K.moved hvm.symm hK1
      obtain ⟨hP, hD⟩ := va_join (wr := [(h0, .inr (5, [.ref r0_0, .int p1, .int v0_2, .int v0_3]))]) (w1 := [(r0_0, .inr (10, [.ref r1_0, .ref r1_1, .int v1_2, .int (u_7.1 0), .int (u_7.1 1), .int (u_7.1 2), .int (u_7.1 3), .int (u_7.1 4)])), (r1_1, .inl (k2, 1200, .inl f2)), (r1_0, .inl (k3, 13, .inl f3))]) hP hD [1, 2, 3] [0] rfl rfl (by decide) (by decide) hk1 hFc hP1 hD1
      have hK := hK
      generalize H1 = H at hP hS ⊢
      have hP := hP.sub (ws' := [(h0, .inr (5, [.ref r0_0, .int p1, .int v0_2, .int v0_3])), (r0_0, .inr (10, [.ref r1_0, .ref r1_1, .int v1_2, .int (u_7.1 0), .int (u_7.1 1), .int (u_7.1 2), .int (u_7.1 3), .int (u_7.1 4)])), (r1_1, .inl (k2, 1200, .inl f2)), (r1_0, .inl (k3, 13, .inl f3))]) [0, 1, 2, 3] rfl
      have hD := hD.sub (ws' := [(h0, .inr (5, [.ref r0_0, .int p1, .int v0_2, .int v0_3])), (r0_0, .inr (10, [.ref r1_0, .ref r1_1, .int v1_2, .int (u_7.1 0), .int (u_7.1 1), .int (u_7.1 2), .int (u_7.1 3), .int (u_7.1 4)])), (r1_1, .inl (k2, 1200, .inl f2)), (r1_0, .inl (k3, 13, .inl f3))]) [0, 1, 2, 3] (by decide) rfl
      have hP : va_P (dC, dI) vwCl [(h0, .inr (5, [.ref r0_0, .int p1, .int v0_2, .int v0_3])), (r0_0, .inr (10, [.ref r1_0, .ref r1_1, .int v1_2, .int (u_7.1 0), .int (u_7.1 1), .int (u_7.1 2), .int (u_7.1 3), .int (u_7.1 4)])), (r1_1, .inl (k2, 1200, .inl f2)), (r1_0, .inl (k3, 13, .inl f3))] H := hP
      have hD : va_D A [(h0, .inr (5, [.ref r0_0, .int p1, .int v0_2, .int v0_3])), (r0_0, .inr (10, [.ref r1_0, .ref r1_1, .int v1_2, .int (u_7.1 0), .int (u_7.1 1), .int (u_7.1 2), .int (u_7.1 3), .int (u_7.1 4)])), (r1_1, .inl (k2, 1200, .inl f2)), (r1_0, .inl (k3, 13, .inl f3))] := hD
      obtain ⟨hmr_6_0, hmr_6_1, hmr_6_2, hmr_6_3, -⟩ := hw_8
      refine lv_iconst (v := 1) hx hb dX5_readKnown_53 (by decide +kernel) ?_
      have hP9 := hP.sub (ws' := [(h0, .inr (5, [.ref r0_0, .int p1, .int v0_2, .int v0_3])), (r0_0, .inr (10, [.ref r1_0, .ref r1_1, .int v1_2, .int (u_7.1 0), .int (u_7.1 1), .int (u_7.1 2), .int (u_7.1 3), .int (u_7.1 4)])), (r1_1, .inl (k2, 1200, .inl f2)), (r1_0, .inl (k3, 13, .inl f3))]) [0, 1, 2, 3] rfl
      have hD9 := hD.sub (ws' := [(h0, .inr (5, [.ref r0_0, .int p1, .int v0_2, .int v0_3])), (r0_0, .inr (10, [.ref r1_0, .ref r1_1, .int v1_2, .int (u_7.1 0), .int (u_7.1 1), .int (u_7.1 2), .int (u_7.1 3), .int (u_7.1 4)])), (r1_1, .inl (k2, 1200, .inl f2)), (r1_0, .inl (k3, 13, .inl f3))]) [0, 1, 2, 3] (by decide) rfl
      have hK9 := hK.sub (tys' := [(k2, .byte), (k3, .int)]) [0, 1] rfl
      rw [← hQ]
      exact W.zret (v := 1) hx hb hr rfl (fun t ht hW => ⟨⟨1, ((fun k => ([p1, v0_2, v0_3, (u_7.1 0), (u_7.1 1), (u_7.1 2), (u_7.1 3), (u_7.1 4)] : List Int32).getD k 0), (fun k => ([] : List (Nat → Int32)).getD k (fun _ => 0)), (fun k => ([] : List (Nat → Int64)).getD k (fun _ => 0))), rfl, ⟨(show (0 : Int) ≤ (1 : Int32).toInt ∧ (1 : Int32).toInt ≤ 1 by decide +kernel), (show (0 : Int) ≤ ((u_7.1 0) : Int32).toInt ∧ ((u_7.1 0) : Int32).toInt ≤ 1200 by omega), (show (0 : Int) ≤ ((u_7.1 1) : Int32).toInt ∧ ((u_7.1 1) : Int32).toInt ≤ 5 by omega), (show (0 : Int) ≤ ((u_7.1 2) : Int32).toInt ∧ ((u_7.1 2) : Int32).toInt ≤ 1200 by omega), (show (-1 : Int) ≤ ((u_7.1 4) : Int32).toInt ∧ ((u_7.1 4) : Int32).toInt ≤ 12 by omega), trivial⟩, by rw [ht]; exact hP9, va_K.moved hW.alike hK9, hD9⟩, hS.F ht⟩) hS.2.2 dX5_readKnown_54
    have oc_5 := zk_eq rfl (by decide +kernel : ((-1) : Int32).toInt = -1) c_5
    refine lv_aload_n hx hb dX5_readKnown_28 rfl (lv_at hl 0 rfl) ?_
    refine lv_iconst (v := 3) hx hb dX5_readKnown_29 (by decide +kernel) ?_
    refine lv_aload_n hx hb dX5_readKnown_30 rfl (lv_at hl 0 rfl) ?_
    refine va_get (D := (dC, dI)) (ci := 5) (v := .ref r0_0) (C := RX5) (T := TX5) (N := 4) hx hb hts zn_X5_readKnown_X5 hown hK hP 0 rfl rfl 0 (by decide) (hts (.fieldLink RX5 12 "ShortEnough$Parser" "words" "LShortEnough$Words;") zw_X5_readKnown_314) (fun _ h9 => h9) rfl dX5_readKnown_31 ?_
    refine va_get (D := (dC, dI)) (ci := 10) (v := .int v1_5) (C := RX10) (T := TX10) (N := 8) hx hb hts zn_X5_readKnown_X10 hown hK hP 1 rfl rfl 5 (by decide) (hts (.fieldLink RX5 64 "ShortEnough$Words" "start" "I") zw_X5_readKnown_317) (fun _ h9 => h9) rfl dX5_readKnown_34 ?_
    have hPc := hP.sub (ws' := [(h0, .inr (5, [.ref r0_0, .int v0_1, .int v0_2, .int v0_3]))]) [0] rfl
    have hDc := hD.sub (ws' := [(h0, .inr (5, [.ref r0_0, .int v0_1, .int v0_2, .int v0_3]))]) [0] (by decide) rfl
    have hKc := hK.sub (tys' := []) [] rfl
    have hFc := va_free (wc := [(h0, .inr (5, [.ref r0_0, .int v0_1, .int v0_2, .int v0_3]))]) hD hS hA [0] rfl
    refine va_calli (va_runV (As := [.int 3, .int v1_5]) (rest := []) ⟨hx, hb, hml, hown, hts⟩ (zs_X5_stopAt l dC dI h0 3 v1_5 r0_0 v0_1 v0_2 v0_3  H.size) (cwV 2 hts gX5_readKnown_X5_stopAt rfl rfl rfl (by decide +kernel) ⟨Nat.le_of_ble_eq_true rfl, Nat.le_of_ble_eq_true rfl⟩) ⟨fun a U g mk q => by obtain ⟨q0, q1, qP, qK, qD⟩ := q; exact ⟨q0, q1, qP, va_K.moved (u := U) (U := U.calling g mk a) (Vm.Alike.refl U.vm) qK, qD⟩, va_recv hKc hPc (ci := 5) (q0 := 0) rfl rfl, fun U hU hW => ⟨rfl, by rw [hU], by rw [hU]; exact hPc, va_K.moved hW.alike hKc, hDc.weaken (fun _ _ _ _ => trivial)⟩⟩ rfl rfl hl.1 rfl (lv_room (Nat.le_of_ble_eq_true rfl)) dX5_readKnown_37 ⟨Nat.le_of_ble_eq_true rfl, Nat.le_of_ble_eq_true rfl⟩) hS (fun q _ h => hFc q h) hFc (fun r_9 u_10 t H1 locs ht hvm hw_11 hB hz1 hk1 hS => ?_)
    obtain ⟨hP1, hK1, hD1⟩ := hB
    rw [ht] at hP1
    have hK1 := va_K.moved hvm.symm hK1
    obtain ⟨hP, hD⟩ := va_join (wr := [(r0_0, .inr (10, [.ref r1_0, .ref r1_1, .int v1_2, .int v1_3, .int v1_4, .int v1_5, .int v1_6, .int v1_7])), (r1_1, .inl (k2, 1200, .inl f2)), (r1_0, .inl (k3, 13, .inl f3))]) (w1 := [(h0, .inr (5, [.ref r0_0, .int v0_1, .int (u_10.1 0), .int (u_10.1 1)]))]) hP hD [0] [1, 2, 3] rfl rfl (by decide) (by decide) hk1 hFc hP1 hD1
    have hK := hK
    generalize H1 = H at hP hS ⊢
    have hP := hP.sub (ws' := [(h0, .inr (5, [.ref r0_0, .int v0_1, .int (u_10.1 0), .int (u_10.1 1)])), (r0_0, .inr (10, [.ref r1_0, .ref r1_1, .int v1_2, .int v1_3, .int v1_4, .int v1_5, .int v1_6, .int v1_7])), (r1_1, .inl (k2, 1200, .inl f2)), (r1_0, .inl (k3, 13, .inl f3))]) [3, 0, 1, 2] rfl
    have hD := hD.sub (ws' := [(h0, .inr (5, [.ref r0_0, .int v0_1, .int (u_10.1 0), .int (u_10.1 1)])), (r0_0, .inr (10, [.ref r1_0, .ref r1_1, .int v1_2, .int v1_3, .int v1_4, .int v1_5, .int v1_6, .int v1_7])), (r1_1, .inl (k2, 1200, .inl f2)), (r1_0, .inl (k3, 13, .inl f3))]) [3, 0, 1, 2] (by decide) rfl
    have hP : va_P (dC, dI) vwCl [(h0, .inr (5, [.ref r0_0, .int v0_1, .int (u_10.1 0), .int (u_10.1 1)])), (r0_0, .inr (10, [.ref r1_0, .ref r1_1, .int v1_2, .int v1_3, .int v1_4, .int v1_5, .int v1_6, .int v1_7])), (r1_1, .inl (k2, 1200, .inl f2)), (r1_0, .inl (k3, 13, .inl f3))] H := hP
    have hD : va_D A [(h0, .inr (5, [.ref r0_0, .int v0_1, .int (u_10.1 0), .int (u_10.1 1)])), (r0_0, .inr (10, [.ref r1_0, .ref r1_1, .int v1_2, .int v1_3, .int v1_4, .int v1_5, .int v1_6, .int v1_7])), (r1_1, .inl (k2, 1200, .inl f2)), (r1_0, .inl (k3, 13, .inl f3))] := hD
    obtain ⟨hr_9, -⟩ := hw_11
    have hP9 := hP.sub (ws' := [(h0, .inr (5, [.ref r0_0, .int v0_1, .int (u_10.1 0), .int (u_10.1 1)])), (r0_0, .inr (10, [.ref r1_0, .ref r1_1, .int v1_2, .int v1_3, .int v1_4, .int v1_5, .int v1_6, .int v1_7])), (r1_1, .inl (k2, 1200, .inl f2)), (r1_0, .inl (k3, 13, .inl f3))]) [0, 1, 2, 3] rfl
    have hD9 := hD.sub (ws' := [(h0, .inr (5, [.ref r0_0, .int v0_1, .int (u_10.1 0), .int (u_10.1 1)])), (r0_0, .inr (10, [.ref r1_0, .ref r1_1, .int v1_2, .int v1_3, .int v1_4, .int v1_5, .int v1_6, .int v1_7])), (r1_1, .inl (k2, 1200, .inl f2)), (r1_0, .inl (k3, 13, .inl f3))]) [0, 1, 2, 3] (by decide) rfl
    have hK9 := hK.sub (tys' := [(k2, .byte), (k3, .int)]) [0, 1] rfl
    rw [← hQ]
    exact W.zret (v := r_9) hx hb hr (zn_b (by omega)) (fun t ht hW => ⟨⟨r_9, ((fun k => ([v0_1, (u_10.1 0), (u_10.1 1), v1_3, v1_4, v1_5, v1_6, v1_7] : List Int32).getD k 0), (fun k => ([] : List (Nat → Int32)).getD k (fun _ => 0)), (fun k => ([] : List (Nat → Int64)).getD k (fun _ => 0))), rfl, ⟨(show (0 : Int) ≤ (r_9 : Int32).toInt ∧ (r_9 : Int32).toInt ≤ 1 by omega), (show (0 : Int) ≤ (v1_3 : Int32).toInt ∧ (v1_3 : Int32).toInt ≤ 1200 by omega), (show (0 : Int) ≤ (v1_4 : Int32).toInt ∧ (v1_4 : Int32).toInt ≤ 5 by omega), (show (0 : Int) ≤ (v1_5 : Int32).toInt ∧ (v1_5 : Int32).toInt ≤ 1200 by omega), (show (-1 : Int) ≤ (v1_7 : Int32).toInt ∧ (v1_7 : Int32).toInt ≤ 12 by omega), trivial⟩, by rw [ht]; exact hP9, va_K.moved hW.alike hK9, hD9⟩, hS.F ht⟩) hS.2.2 dX5_readKnown_40
  have oc_4 := zk_eq rfl (by decide +kernel : (0 : Int32).toInt = 0) c_4
  refine lv_aload_n hx hb dX5_readKnown_10 rfl (lv_at hl 0 rfl) ?_
  refine lv_iconst (v := 1) hx hb dX5_readKnown_11 (by decide +kernel) ?_
  refine lv_aload_n hx hb dX5_readKnown_12 rfl (lv_at hl 0 rfl) ?_
  refine va_get (D := (dC, dI)) (ci := 5) (v := .ref r0_0) (C := RX5) (T := TX5) (N := 4) hx hb hts zn_X5_readKnown_X5 hown hK hP 0 rfl rfl 0 (by decide) (hts (.fieldLink RX5 12 "ShortEnough$Parser" "words" "LShortEnough$Words;") zw_X5_readKnown_314) (fun _ h9 => h9) rfl dX5_readKnown_13 ?_
  refine va_get (D := (dC, dI)) (ci := 10) (v := .int v1_5) (C := RX10) (T := TX10) (N := 8) hx hb hts zn_X5_readKnown_X10 hown hK hP 1 rfl rfl 5 (by decide) (hts (.fieldLink RX5 64 "ShortEnough$Words" "start" "I") zw_X5_readKnown_317) (fun _ h9 => h9) rfl dX5_readKnown_16 ?_
  have hPc := hP.sub (ws' := [(h0, .inr (5, [.ref r0_0, .int v0_1, .int v0_2, .int v0_3]))]) [0] rfl
  have hDc := hD.sub (ws' := [(h0, .inr (5, [.ref r0_0, .int v0_1, .int v0_2, .int v0_3]))]) [0] (by decide) rfl
  have hKc := hK.sub (tys' := []) [] rfl
  have hFc := va_free (wc := [(h0, .inr (5, [.ref r0_0, .int v0_1, .int v0_2, .int v0_3]))]) hD hS hA [0] rfl
  refine va_calli (va_runV (As := [.int 1, .int v1_5]) (rest := []) ⟨hx, hb, hml, hown, hts⟩ (zs_X5_stopAt l dC dI h0 1 v1_5 r0_0 v0_1 v0_2 v0_3  H.size) (cwV 2 hts gX5_readKnown_X5_stopAt rfl rfl rfl (by decide +kernel) ⟨Nat.le_of_ble_eq_true rfl, Nat.le_of_ble_eq_true rfl⟩) ⟨fun a U g mk q => by obtain ⟨q0, q1, qP, qK, qD⟩ := q; exact ⟨q0, q1, qP, va_K.moved (u := U) (U := U.calling g mk a) (Vm.Alike.refl U.vm) qK, qD⟩, va_recv hKc hPc (ci := 5) (q0 := 0) rfl rfl, fun U hU hW => ⟨rfl, by rw [hU], by rw [hU]; exact hPc, va_K.moved hW.alike hKc, hDc.weaken (fun _ _ _ _ => trivial)⟩⟩ rfl rfl hl.1 rfl (lv_room (Nat.le_of_ble_eq_true rfl)) dX5_readKnown_19 ⟨Nat.le_of_ble_eq_true rfl, Nat.le_of_ble_eq_true rfl⟩) hS (fun q _ h => hFc q h) hFc (fun r_12 u_13 t H1 locs ht hvm hw_14 hB hz1 hk1 hS => ?_)
  obtain ⟨hP1, hK1, hD1⟩ := hB
  rw [ht] at hP1
  have hK1 := va_K.moved hvm.symm hK1
  obtain ⟨hP, hD⟩ := va_join (wr := [(r0_0, .inr (10, [.ref r1_0, .ref r1_1, .int v1_2, .int v1_3, .int v1_4, .int v1_5, .int v1_6, .int v1_7])), (r1_1, .inl (k2, 1200, .inl f2)), (r1_0, .inl (k3, 13, .inl f3))]) (w1 := [(h0, .inr (5, [.ref r0_0, .int v0_1, .int (u_13.1 0), .int (u_13.1 1)]))]) hP hD [0] [1, 2, 3] rfl rfl (by decide) (by decide) hk1 hFc hP1 hD1
  have hK := hK
  generalize H1 = H at hP hS ⊢
  have hP := hP.sub (ws' := [(h0, .inr (5, [.ref r0_0, .int v0_1, .int (u_13.1 0), .int (u_13.1 1)])), (r0_0, .inr (10, [.ref r1_0, .ref r1_1, .int v1_2, .int v1_3, .int v1_4, .int v1_5, .int v1_6, .int v1_7])), (r1_1, .inl (k2, 1200, .inl f2)), (r1_0, .inl (k3, 13, .inl f3))]) [3, 0, 1, 2] rfl
  have hD := hD.sub (ws' := [(h0, .inr (5, [.ref r0_0, .int v0_1, .int (u_13.1 0), .int (u_13.1 1)])), (r0_0, .inr (10, [.ref r1_0, .ref r1_1, .int v1_2, .int v1_3, .int v1_4, .int v1_5, .int v1_6, .int v1_7])), (r1_1, .inl (k2, 1200, .inl f2)), (r1_0, .inl (k3, 13, .inl f3))]) [3, 0, 1, 2] (by decide) rfl
  have hP : va_P (dC, dI) vwCl [(h0, .inr (5, [.ref r0_0, .int v0_1, .int (u_13.1 0), .int (u_13.1 1)])), (r0_0, .inr (10, [.ref r1_0, .ref r1_1, .int v1_2, .int v1_3, .int v1_4, .int v1_5, .int v1_6, .int v1_7])), (r1_1, .inl (k2, 1200, .inl f2)), (r1_0, .inl (k3, 13, .inl f3))] H := hP
  have hD : va_D A [(h0, .inr (5, [.ref r0_0, .int v0_1, .int (u_13.1 0), .int (u_13.1 1)])), (r0_0, .inr (10, [.ref r1_0, .ref r1_1, .int v1_2, .int v1_3, .int v1_4, .int v1_5, .int v1_6, .int v1_7])), (r1_1, .inl (k2, 1200, .inl f2)), (r1_0, .inl (k3, 13, .inl f3))] := hD
  obtain ⟨hr_12, -⟩ := hw_14
  have hP9 := hP.sub (ws' := [(h0, .inr (5, [.ref r0_0, .int v0_1, .int (u_13.1 0), .int (u_13.1 1)])), (r0_0, .inr (10, [.ref r1_0, .ref r1_1, .int v1_2, .int v1_3, .int v1_4, .int v1_5, .int v1_6, .int v1_7])), (r1_1, .inl (k2, 1200, .inl f2)), (r1_0, .inl (k3, 13, .inl f3))]) [0, 1, 2, 3] rfl
  have hD9 := hD.sub (ws' := [(h0, .inr (5, [.ref r0_0, .int v0_1, .int (u_13.1 0), .int (u_13.1 1)])), (r0_0, .inr (10, [.ref r1_0, .ref r1_1, .int v1_2, .int v1_3, .int v1_4, .int v1_5, .int v1_6, .int v1_7])), (r1_1, .inl (k2, 1200, .inl f2)), (r1_0, .inl (k3, 13, .inl f3))]) [0, 1, 2, 3] (by decide) rfl
  have hK9 := hK.sub (tys' := [(k2, .byte), (k3, .int)]) [0, 1] rfl
  rw [← hQ]
  exact W.zret (v := r_12) hx hb hr (zn_b (by omega)) (fun t ht hW => ⟨⟨r_12, ((fun k => ([v0_1, (u_13.1 0), (u_13.1 1), v1_3, v1_4, v1_5, v1_6, v1_7] : List Int32).getD k 0), (fun k => ([] : List (Nat → Int32)).getD k (fun _ => 0)), (fun k => ([] : List (Nat → Int64)).getD k (fun _ => 0))), rfl, ⟨(show (0 : Int) ≤ (r_12 : Int32).toInt ∧ (r_12 : Int32).toInt ≤ 1 by omega), (show (0 : Int) ≤ (v1_3 : Int32).toInt ∧ (v1_3 : Int32).toInt ≤ 1200 by omega), (show (0 : Int) ≤ (v1_4 : Int32).toInt ∧ (v1_4 : Int32).toInt ≤ 5 by omega), (show (0 : Int) ≤ (v1_5 : Int32).toInt ∧ (v1_5 : Int32).toInt ≤ 1200 by omega), (show (-1 : Int) ≤ (v1_7 : Int32).toInt ∧ (v1_7 : Int32).toInt ≤ 12 by omega), trivial⟩, by rw [ht]; exact hP9, va_K.moved hW.alike hK9, hD9⟩, hS.F ht⟩) hS.2.2 dX5_readKnown_22
set_option maxHeartbeats 4000000 in
set_option maxRecDepth 100000 in
theorem zs_X5_readCast (l : Launch) (dC : Nat → ClassId) (dI : Nat → Nat → Nat) (h0 : Nat) (h1 : Nat) (r0_0 : Nat) (v0_1 : Int32) (v0_2 : Int32) (v0_3 : Int32) (r1_0 : Nat) (r1_1 : Nat) (v1_2 : Int32) (v1_3 : Int32) (v1_4 : Int32) (v1_5 : Int32) (v1_6 : Int32) (v1_7 : Int32) (k2 : Nat) (f2 : Nat → Int32) (k3 : Nat) (f3 : Nat → Int32) (v4_0 : Int32) (r4_1 : Nat) (r4_2 : Nat) (r4_3 : Nat) (r4_4 : Nat) (v4_5 : Int32) (r4_6 : Nat) (r4_7 : Nat) (r4_8 : Nat) (hq_v1_2 : (0 : Int) ≤ v1_2.toInt ∧ v1_2.toInt ≤ 1200) (hq_v1_3 : (0 : Int) ≤ v1_3.toInt ∧ v1_3.toInt ≤ 1200) (hq_v1_4 : (0 : Int) ≤ v1_4.toInt ∧ v1_4.toInt ≤ 5) (hq_v1_5 : (0 : Int) ≤ v1_5.toInt ∧ v1_5.toInt ≤ 1200) (hq_v1_7 : (-1 : Int) ≤ v1_7.toInt ∧ v1_7.toInt ≤ 12) (hq_v4_0 : (0 : Int) ≤ v4_0.toInt ∧ v4_0.toInt ≤ 4) (sz : Nat) : Met l yX5_readCast wsX5_readCast ({ frames := 3, cells := 0, slots := 0, locals := 72 }) (va_Pc [.ref h0, .ref h1] (fun U => U.heap.size = sz ∧ va_P (dC, dI) vwCl [(h0, .inr (5, [.ref r0_0, .int v0_1, .int v0_2, .int v0_3])), (r0_0, .inr (10, [.ref r1_0, .ref r1_1, .int v1_2, .int v1_3, .int v1_4, .int v1_5, .int v1_6, .int v1_7])), (r1_1, .inl (k2, 1200, .inl f2)), (r1_0, .inl (k3, 13, .inl f3)), (h1, .inr (9, [.int v4_0, .ref r4_1, .ref r4_2, .ref r4_3, .ref r4_4, .int v4_5, .ref r4_6, .ref r4_7, .ref r4_8]))] U.heap ∧ va_K (dC, dI) vwCl [(k2, .byte), (k3, .int)] U ∧ va_D (fun _ => True) [(h0, .inr (5, [.ref r0_0, .int v0_1, .int v0_2, .int v0_3])), (r0_0, .inr (10, [.ref r1_0, .ref r1_1, .int v1_2, .int v1_3, .int v1_4, .int v1_5, .int v1_6, .int v1_7])), (r1_1, .inl (k2, 1200, .inl f2)), (r1_0, .inl (k3, 13, .inl f3)), (h1, .inr (9, [.int v4_0, .ref r4_1, .ref r4_2, .ref r4_3, .ref r4_4, .int v4_5, .ref r4_6, .ref r4_7, .ref r4_8]))])) (va_Qi (fun (r : Int32) (u : zV) => ((0 : Int) ≤ r.toInt ∧ r.toInt ≤ 1) ∧ ((0 : Int) ≤ (u.1 3).toInt ∧ (u.1 3).toInt ≤ 1200) ∧ ((0 : Int) ≤ (u.1 4).toInt ∧ (u.1 4).toInt ≤ 5) ∧ ((0 : Int) ≤ (u.1 5).toInt ∧ (u.1 5).toInt ≤ 1200) ∧ ((-1 : Int) ≤ (u.1 7).toInt ∧ (u.1 7).toInt ≤ 12) ∧ True) (fun u t => va_P (dC, dI) vwCl [(h0, .inr (5, [.ref r0_0, .int (u.1 0), .int (u.1 1), .int (u.1 2)])), (r0_0, .inr (10, [.ref r1_0, .ref r1_1, .int v1_2, .int (u.1 3), .int (u.1 4), .int (u.1 5), .int (u.1 6), .int (u.1 7)])), (r1_1, .inl (k2, 1200, .inl f2)), (r1_0, .inl (k3, 13, .inl f3)), (h1, .inr (9, [.int v4_0, .ref r4_1, .ref r4_2, .ref r4_3, .ref r4_4, .int (u.1 8), .ref r4_6, .ref r4_7, .ref r4_8]))] t.heap ∧ va_K (dC, dI) vwCl [(k2, .byte), (k3, .int)] t ∧ va_D (va_A [(h0, .inr (5, [.ref r0_0, .int v0_1, .int v0_2, .int v0_3])), (r0_0, .inr (10, [.ref r1_0, .ref r1_1, .int v1_2, .int v1_3, .int v1_4, .int v1_5, .int v1_6, .int v1_7])), (r1_1, .inl (k2, 1200, .inl f2)), (r1_0, .inl (k3, 13, .inl f3)), (h1, .inr (9, [.int v4_0, .ref r4_1, .ref r4_2, .ref r4_3, .ref r4_4, .int v4_5, .ref r4_6, .ref r4_7, .ref r4_8]))] sz) [(h0, .inr (5, [.ref r0_0, .int (u.1 0), .int (u.1 1), .int (u.1 2)])), (r0_0, .inr (10, [.ref r1_0, .ref r1_1, .int v1_2, .int (u.1 3), .int (u.1 4), .int (u.1 5), .int (u.1 6), .int (u.1 7)])), (r1_1, .inl (k2, 1200, .inl f2)), (r1_0, .inl (k3, 13, .inl f3)), (h1, .inr (9, [.int v4_0, .ref r4_1, .ref r4_2, .ref r4_3, .ref r4_4, .int (u.1 8), .ref r4_6, .ref r4_7, .ref r4_8]))]) (va_A [(h0, .inr (5, [.ref r0_0, .int v0_1, .int v0_2, .int v0_3])), (r0_0, .inr (10, [.ref r1_0, .ref r1_1, .int v1_2, .int v1_3, .int v1_4, .int v1_5, .int v1_6, .int v1_7])), (r1_1, .inl (k2, 1200, .inl f2)), (r1_0, .inl (k3, 13, .inl f3)), (h1, .inr (9, [.int v4_0, .ref r4_1, .ref r4_2, .ref r4_3, .ref r4_4, .int v4_5, .ref r4_6, .ref r4_7, .ref r4_8]))] sz)) 0 0 (va_A [(h0, .inr (5, [.ref r0_0, .int v0_1, .int v0_2, .int v0_3])), (r0_0, .inr (10, [.ref r1_0, .ref r1_1, .int v1_2, .int v1_3, .int v1_4, .int v1_5, .int v1_6, .int v1_7])), (r1_1, .inl (k2, 1200, .inl f2)), (r1_0, .inl (k3, 13, .inl f3)), (h1, .inr (9, [.int v4_0, .ref r4_1, .ref r4_2, .ref r4_3, .ref r4_4, .int v4_5, .ref r4_6, .ref r4_7, .ref r4_8]))] sz) := by
  refine Met.ofW (cc := cX5_readCast) (maxL := 2) (ret := (some .boolean)) (by decide +kernel) rfl ?_
  intro p e s m args below meth c s₁ B hml hv
  obtain ⟨rfl, hsz, hP, hK, hD0⟩ := hv
  have hx := B.exec
  have hb := B.bytes
  have hr := B.returns
  have hts := atoms_spec (ws := wsX5_readCast) B.pre
  have hown : s.vm.findClass RX5 = some m.cls := findClass_of_methodNamed B.named
  have hlocks := B.notSynchronized
  subst hsz
  have hD := hD0.self (sz := s.heap.size)
  generalize hAe : va_A [(h0, .inr (5, [.ref r0_0, .int v0_1, .int v0_2, .int v0_3])), (r0_0, .inr (10, [.ref r1_0, .ref r1_1, .int v1_2, .int v1_3, .int v1_4, .int v1_5, .int v1_6, .int v1_7])), (r1_1, .inl (k2, 1200, .inl f2)), (r1_0, .inl (k3, 13, .inl f3)), (h1, .inr (9, [.int v4_0, .ref r4_1, .ref r4_2, .ref r4_3, .ref r4_4, .int v4_5, .ref r4_6, .ref r4_7, .ref r4_8]))] s.heap.size = A at hD ⊢
  have hA : ∀ q : Nat, s.heap.size ≤ q → A q := fun q h => by rw [← hAe]; exact Or.inr h
  have hS : va_S A s.heap s.heap [] := va_S.rf
  have hP : va_P (dC, dI) vwCl [(h0, .inr (5, [.ref r0_0, .int v0_1, .int v0_2, .int v0_3])), (r0_0, .inr (10, [.ref r1_0, .ref r1_1, .int v1_2, .int v1_3, .int v1_4, .int v1_5, .int v1_6, .int v1_7])), (r1_1, .inl (k2, 1200, .inl f2)), (r1_0, .inl (k3, 13, .inl f3)), (h1, .inr (9, [.int v4_0, .ref r4_1, .ref r4_2, .ref r4_3, .ref r4_4, .int v4_5, .ref r4_6, .ref r4_7, .ref r4_8]))] s.heap := hP
  have hl := lv_entry ([.ref h0, .ref h1]) (n := 2) (Nat.le_of_ble_eq_true rfl)
  rw [lg_entry_eq]
  generalize (lg_sl ([.ref h0, .ref h1]) ++ List.replicate (2 - (lg_sl ([.ref h0, .ref h1])).length) Slot.unset).toArray = ls at hl ⊢
  have hl : lv_has ls 2 [(0, .ref h0), (1, .ref h1)] := hl
  generalize hQ : MQ below (va_Qi (fun (r : Int32) (u : zV) => ((0 : Int) ≤ r.toInt ∧ r.toInt ≤ 1) ∧ ((0 : Int) ≤ (u.1 3).toInt ∧ (u.1 3).toInt ≤ 1200) ∧ ((0 : Int) ≤ (u.1 4).toInt ∧ (u.1 4).toInt ≤ 5) ∧ ((0 : Int) ≤ (u.1 5).toInt ∧ (u.1 5).toInt ≤ 1200) ∧ ((-1 : Int) ≤ (u.1 7).toInt ∧ (u.1 7).toInt ≤ 12) ∧ True) (fun u t => va_P (dC, dI) vwCl [(h0, .inr (5, [.ref r0_0, .int (u.1 0), .int (u.1 1), .int (u.1 2)])), (r0_0, .inr (10, [.ref r1_0, .ref r1_1, .int v1_2, .int (u.1 3), .int (u.1 4), .int (u.1 5), .int (u.1 6), .int (u.1 7)])), (r1_1, .inl (k2, 1200, .inl f2)), (r1_0, .inl (k3, 13, .inl f3)), (h1, .inr (9, [.int v4_0, .ref r4_1, .ref r4_2, .ref r4_3, .ref r4_4, .int (u.1 8), .ref r4_6, .ref r4_7, .ref r4_8]))] t.heap ∧ va_K (dC, dI) vwCl [(k2, .byte), (k3, .int)] t ∧ va_D A [(h0, .inr (5, [.ref r0_0, .int (u.1 0), .int (u.1 1), .int (u.1 2)])), (r0_0, .inr (10, [.ref r1_0, .ref r1_1, .int v1_2, .int (u.1 3), .int (u.1 4), .int (u.1 5), .int (u.1 6), .int (u.1 7)])), (r1_1, .inl (k2, 1200, .inl f2)), (r1_0, .inl (k3, 13, .inl f3)), (h1, .inr (9, [.int v4_0, .ref r4_1, .ref r4_2, .ref r4_3, .ref r4_4, .int (u.1 8), .ref r4_6, .ref r4_7, .ref r4_8]))]) A) ([.ref h0, .ref h1] : List Value).toArray s 0 0 A = Q
  refine lv_aload_n hx hb dX5_readCast_0 rfl (lv_at hl 0 rfl) ?_
  refine lv_iconst (v := 0) hx hb dX5_readCast_1 (by decide +kernel) ?_
  refine lv_iconst (v := 0) hx hb dX5_readCast_2 (by decide +kernel) ?_
  refine lv_sipush (v := 999) hx hb dX5_readCast_3 (by decide +kernel) ?_
  have hPc := hP.sub (ws' := [(h0, .inr (5, [.ref r0_0, .int v0_1, .int v0_2, .int v0_3])), (r0_0, .inr (10, [.ref r1_0, .ref r1_1, .int v1_2, .int v1_3, .int v1_4, .int v1_5, .int v1_6, .int v1_7])), (r1_1, .inl (k2, 1200, .inl f2)), (r1_0, .inl (k3, 13, .inl f3))]) [0, 1, 2, 3] rfl
  have hDc := hD.sub (ws' := [(h0, .inr (5, [.ref r0_0, .int v0_1, .int v0_2, .int v0_3])), (r0_0, .inr (10, [.ref r1_0, .ref r1_1, .int v1_2, .int v1_3, .int v1_4, .int v1_5, .int v1_6, .int v1_7])), (r1_1, .inl (k2, 1200, .inl f2)), (r1_0, .inl (k3, 13, .inl f3))]) [0, 1, 2, 3] (by decide) rfl
  have hKc := hK.sub (tys' := [(k2, .byte), (k3, .int)]) [0, 1] rfl
  have hFc := va_free (wc := [(h0, .inr (5, [.ref r0_0, .int v0_1, .int v0_2, .int v0_3])), (r0_0, .inr (10, [.ref r1_0, .ref r1_1, .int v1_2, .int v1_3, .int v1_4, .int v1_5, .int v1_6, .int v1_7])), (r1_1, .inl (k2, 1200, .inl f2)), (r1_0, .inl (k3, 13, .inl f3))]) hD hS hA [0, 1, 2, 3] rfl
  refine va_calli (va_runV (As := [.int 0, .int 0, .int 999]) (rest := []) ⟨hx, hb, hml, hown, hts⟩ (zs_X5_readValue l dC dI h0 0 0 999 r0_0 v0_1 v0_2 v0_3 r1_0 r1_1 v1_2 v1_3 v1_4 v1_5 v1_6 v1_7 k2 f2 k3 f3 (by decide +kernel) (by omega) (by omega) (by omega) (by omega) (by omega) s.heap.size) (cwV 3 hts gX5_readCast_X5_readValue rfl rfl rfl (by decide +kernel) ⟨Nat.le_of_ble_eq_true rfl, Nat.le_of_ble_eq_true rfl⟩) ⟨fun a U g mk q => by obtain ⟨q0, q1, qP, qK, qD⟩ := q; exact ⟨q0, q1, qP, va_K.moved (u := U) (U := U.calling g mk a) (Vm.Alike.refl U.vm) qK, qD⟩, va_recv hKc hPc (ci := 5) (q0 := 0) rfl rfl, fun U hU hW => ⟨rfl, by rw [hU], by rw [hU]; exact hPc, va_K.moved hW.alike hKc, hDc.weaken (fun _ _ _ _ => trivial)⟩⟩ rfl rfl hl.1 rfl (lv_room (Nat.le_of_ble_eq_true rfl)) dX5_readCast_6 ⟨Nat.le_of_ble_eq_true rfl, Nat.le_of_ble_eq_true rfl⟩) hS (fun q _ h => hFc q h) hFc (fun r_1 u_2 t H1 locs ht hvm hw_3 hB hz1 hk1 hS => ?_)
  obtain ⟨hP1, hK1, hD1⟩ := hB
  rw [ht] at hP1
  have hK1 := va_K.moved hvm.symm hK1
  obtain ⟨hP, hD⟩ := va_join (wr := [(h1, .inr (9, [.int v4_0, .ref r4_1, .ref r4_2, .ref r4_3, .ref r4_4, .int v4_5, .ref r4_6, .ref r4_7, .ref r4_8]))]) (w1 := [(h0, .inr (5, [.ref r0_0, .int (u_2.1 0), .int (u_2.1 1), .int (u_2.1 2)])), (r0_0, .inr (10, [.ref r1_0, .ref r1_1, .int v1_2, .int (u_2.1 3), .int (u_2.1 4), .int (u_2.1 5), .int (u_2.1 6), .int (u_2.1 7)])), (r1_1, .inl (k2, 1200, .inl f2)), (r1_0, .inl (k3, 13, .inl f3))]) hP hD [0, 1, 2, 3] [4] rfl rfl (by decide) (by decide) hk1 hFc hP1 hD1
  have hK := hK
  generalize H1 = H at hP hS ⊢
  have hP := hP.sub (ws' := [(h0, .inr (5, [.ref r0_0, .int (u_2.1 0), .int (u_2.1 1), .int (u_2.1 2)])), (r0_0, .inr (10, [.ref r1_0, .ref r1_1, .int v1_2, .int (u_2.1 3), .int (u_2.1 4), .int (u_2.1 5), .int (u_2.1 6), .int (u_2.1 7)])), (r1_1, .inl (k2, 1200, .inl f2)), (r1_0, .inl (k3, 13, .inl f3)), (h1, .inr (9, [.int v4_0, .ref r4_1, .ref r4_2, .ref r4_3, .ref r4_4, .int v4_5, .ref r4_6, .ref r4_7, .ref r4_8]))]) [1, 2, 3, 4, 0] rfl
  have hD := hD.sub (ws' := [(h0, .inr (5, [.ref r0_0, .int (u_2.1 0), .int (u_2.1 1), .int (u_2.1 2)])), (r0_0, .inr (10, [.ref r1_0, .ref r1_1, .int v1_2, .int (u_2.1 3), .int (u_2.1 4), .int (u_2.1 5), .int (u_2.1 6), .int (u_2.1 7)])), (r1_1, .inl (k2, 1200, .inl f2)), (r1_0, .inl (k3, 13, .inl f3)), (h1, .inr (9, [.int v4_0, .ref r4_1, .ref r4_2, .ref r4_3, .ref r4_4, .int v4_5, .ref r4_6, .ref r4_7, .ref r4_8]))]) [1, 2, 3, 4, 0] (by decide) rfl
  have hP : va_P (dC, dI) vwCl [(h0, .inr (5, [.ref r0_0, .int (u_2.1 0), .int (u_2.1 1), .int (u_2.1 2)])), (r0_0, .inr (10, [.ref r1_0, .ref r1_1, .int v1_2, .int (u_2.1 3), .int (u_2.1 4), .int (u_2.1 5), .int (u_2.1 6), .int (u_2.1 7)])), (r1_1, .inl (k2, 1200, .inl f2)), (r1_0, .inl (k3, 13, .inl f3)), (h1, .inr (9, [.int v4_0, .ref r4_1, .ref r4_2, .ref r4_3, .ref r4_4, .int v4_5, .ref r4_6, .ref r4_7, .ref r4_8]))] H := hP
  have hD : va_D A [(h0, .inr (5, [.ref r0_0, .int (u_2.1 0), .int (u_2.1 1), .int (u_2.1 2)])), (r0_0, .inr (10, [.ref r1_0, .ref r1_1, .int v1_2, .int (u_2.1 3), .int (u_2.1 4), .int (u_2.1 5), .int (u_2.1 6), .int (u_2.1 7)])), (r1_1, .inl (k2, 1200, .inl f2)), (r1_0, .inl (k3, 13, .inl f3)), (h1, .inr (9, [.int v4_0, .ref r4_1, .ref r4_2, .ref r4_3, .ref r4_4, .int v4_5, .ref r4_6, .ref r4_7, .ref r4_8]))] := hD
  obtain ⟨hr_1, hmr_1_1, hmr_1_2, hmr_1_3, hmr_1_4, -⟩ := hw_3
  refine lv_if_ne (tgt := 14) hx hb dX5_readCast_9 (by decide) (fun c_4 => ?_) (fun c_4 => ?_)
  · have oc_4 := zk_ne rfl (by decide +kernel : (0 : Int32).toInt = 0) c_4
    refine lv_aload_n hx hb dX5_readCast_14 rfl (lv_at hl 1 rfl) ?_
    refine lv_aload_n hx hb dX5_readCast_15 rfl (lv_at hl 0 rfl) ?_
    refine va_get (D := (dC, dI)) (ci := 5) (v := .int (u_2.1 0)) (C := RX5) (T := TX5) (N := 4) hx hb hts zn_X5_readCast_X5 hown hK hP 0 rfl rfl 1 (by decide) (hts (.fieldLink RX5 102 "ShortEnough$Parser" "got" "I") zw_X5_readCast_319) (fun _ h9 => h9) rfl dX5_readCast_16 ?_
    refine va_put (D := (dC, dI)) (ci := 9) (v := .int (u_2.1 0)) (ty := .int) (C := RX9) (T := TX9) (N := 9) hx hb hts zn_X5_readCast_X9 tyX9 tyX9_ok nmX9 hown hK hP hD hS 4 rfl rfl 5 (by decide) (hts (.fieldLink RX5 118 "ShortEnough$Task" "castPrice" "I") zw_X5_readCast_321) (fun _ h9 => h9) rfl (by decide +kernel) rfl rfl (Nat.le_of_ble_eq_true rfl) dX5_readCast_19 (fun H locs hP hD hS => ?_)
    have hP : va_P (dC, dI) vwCl [(h0, .inr (5, [.ref r0_0, .int (u_2.1 0), .int (u_2.1 1), .int (u_2.1 2)])), (r0_0, .inr (10, [.ref r1_0, .ref r1_1, .int v1_2, .int (u_2.1 3), .int (u_2.1 4), .int (u_2.1 5), .int (u_2.1 6), .int (u_2.1 7)])), (r1_1, .inl (k2, 1200, .inl f2)), (r1_0, .inl (k3, 13, .inl f3)), (h1, .inr (9, [.int v4_0, .ref r4_1, .ref r4_2, .ref r4_3, .ref r4_4, .int (u_2.1 0), .ref r4_6, .ref r4_7, .ref r4_8]))] H := hP
    have hD : va_D A [(h0, .inr (5, [.ref r0_0, .int (u_2.1 0), .int (u_2.1 1), .int (u_2.1 2)])), (r0_0, .inr (10, [.ref r1_0, .ref r1_1, .int v1_2, .int (u_2.1 3), .int (u_2.1 4), .int (u_2.1 5), .int (u_2.1 6), .int (u_2.1 7)])), (r1_1, .inl (k2, 1200, .inl f2)), (r1_0, .inl (k3, 13, .inl f3)), (h1, .inr (9, [.int v4_0, .ref r4_1, .ref r4_2, .ref r4_3, .ref r4_4, .int (u_2.1 0), .ref r4_6, .ref r4_7, .ref r4_8]))] := hD
    refine lv_iconst (v := 1) hx hb dX5_readCast_22 (by decide +kernel) ?_
    have hP9 := hP.sub (ws' := [(h0, .inr (5, [.ref r0_0, .int (u_2.1 0), .int (u_2.1 1), .int (u_2.1 2)])), (r0_0, .inr (10, [.ref r1_0, .ref r1_1, .int v1_2, .int (u_2.1 3), .int (u_2.1 4), .int (u_2.1 5), .int (u_2.1 6), .int (u_2.1 7)])), (r1_1, .inl (k2, 1200, .inl f2)), (r1_0, .inl (k3, 13, .inl f3)), (h1, .inr (9, [.int v4_0, .ref r4_1, .ref r4_2, .ref r4_3, .ref r4_4, .int (u_2.1 0), .ref r4_6, .ref r4_7, .ref r4_8]))]) [0, 1, 2, 3, 4] rfl
    have hD9 := hD.sub (ws' := [(h0, .inr (5, [.ref r0_0, .int (u_2.1 0), .int (u_2.1 1), .int (u_2.1 2)])), (r0_0, .inr (10, [.ref r1_0, .ref r1_1, .int v1_2, .int (u_2.1 3), .int (u_2.1 4), .int (u_2.1 5), .int (u_2.1 6), .int (u_2.1 7)])), (r1_1, .inl (k2, 1200, .inl f2)), (r1_0, .inl (k3, 13, .inl f3)), (h1, .inr (9, [.int v4_0, .ref r4_1, .ref r4_2, .ref r4_3, .ref r4_4, .int (u_2.1 0), .ref r4_6, .ref r4_7, .ref r4_8]))]) [0, 1, 2, 3, 4] (by decide) rfl
    have hK9 := hK.sub (tys' := [(k2, .byte), (k3, .int)]) [0, 1] rfl
    rw [← hQ]
    exact W.zret (v := 1) hx hb hr rfl (fun t ht hW => ⟨⟨1, ((fun k => ([(u_2.1 0), (u_2.1 1), (u_2.1 2), (u_2.1 3), (u_2.1 4), (u_2.1 5), (u_2.1 6), (u_2.1 7), (u_2.1 0)] : List Int32).getD k 0), (fun k => ([] : List (Nat → Int32)).getD k (fun _ => 0)), (fun k => ([] : List (Nat → Int64)).getD k (fun _ => 0))), rfl, ⟨(show (0 : Int) ≤ (1 : Int32).toInt ∧ (1 : Int32).toInt ≤ 1 by decide +kernel), (show (0 : Int) ≤ ((u_2.1 3) : Int32).toInt ∧ ((u_2.1 3) : Int32).toInt ≤ 1200 by omega), (show (0 : Int) ≤ ((u_2.1 4) : Int32).toInt ∧ ((u_2.1 4) : Int32).toInt ≤ 5 by omega), (show (0 : Int) ≤ ((u_2.1 5) : Int32).toInt ∧ ((u_2.1 5) : Int32).toInt ≤ 1200 by omega), (show (-1 : Int) ≤ ((u_2.1 7) : Int32).toInt ∧ ((u_2.1 7) : Int32).toInt ≤ 12 by omega), trivial⟩, by rw [ht]; exact hP9, va_K.moved hW.alike hK9, hD9⟩, hS.F ht⟩) hS.2.2 dX5_readCast_23
  have oc_4 := zk_eq rfl (by decide +kernel : (0 : Int32).toInt = 0) c_4
  refine lv_iconst (v := 0) hx hb dX5_readCast_12 (by decide +kernel) ?_
  have hP9 := hP.sub (ws' := [(h0, .inr (5, [.ref r0_0, .int (u_2.1 0), .int (u_2.1 1), .int (u_2.1 2)])), (r0_0, .inr (10, [.ref r1_0, .ref r1_1, .int v1_2, .int (u_2.1 3), .int (u_2.1 4), .int (u_2.1 5), .int (u_2.1 6), .int (u_2.1 7)])), (r1_1, .inl (k2, 1200, .inl f2)), (r1_0, .inl (k3, 13, .inl f3)), (h1, .inr (9, [.int v4_0, .ref r4_1, .ref r4_2, .ref r4_3, .ref r4_4, .int v4_5, .ref r4_6, .ref r4_7, .ref r4_8]))]) [0, 1, 2, 3, 4] rfl
  have hD9 := hD.sub (ws' := [(h0, .inr (5, [.ref r0_0, .int (u_2.1 0), .int (u_2.1 1), .int (u_2.1 2)])), (r0_0, .inr (10, [.ref r1_0, .ref r1_1, .int v1_2, .int (u_2.1 3), .int (u_2.1 4), .int (u_2.1 5), .int (u_2.1 6), .int (u_2.1 7)])), (r1_1, .inl (k2, 1200, .inl f2)), (r1_0, .inl (k3, 13, .inl f3)), (h1, .inr (9, [.int v4_0, .ref r4_1, .ref r4_2, .ref r4_3, .ref r4_4, .int v4_5, .ref r4_6, .ref r4_7, .ref r4_8]))]) [0, 1, 2, 3, 4] (by decide) rfl
  have hK9 := hK.sub (tys' := [(k2, .byte), (k3, .int)]) [0, 1] rfl
  rw [← hQ]
  exact W.zret (v := 0) hx hb hr rfl (fun t ht hW => ⟨⟨0, ((fun k => ([(u_2.1 0), (u_2.1 1), (u_2.1 2), (u_2.1 3), (u_2.1 4), (u_2.1 5), (u_2.1 6), (u_2.1 7), v4_5] : List Int32).getD k 0), (fun k => ([] : List (Nat → Int32)).getD k (fun _ => 0)), (fun k => ([] : List (Nat → Int64)).getD k (fun _ => 0))), rfl, ⟨(show (0 : Int) ≤ (0 : Int32).toInt ∧ (0 : Int32).toInt ≤ 1 by decide +kernel), (show (0 : Int) ≤ ((u_2.1 3) : Int32).toInt ∧ ((u_2.1 3) : Int32).toInt ≤ 1200 by omega), (show (0 : Int) ≤ ((u_2.1 4) : Int32).toInt ∧ ((u_2.1 4) : Int32).toInt ≤ 5 by omega), (show (0 : Int) ≤ ((u_2.1 5) : Int32).toInt ∧ ((u_2.1 5) : Int32).toInt ≤ 1200 by omega), (show (-1 : Int) ≤ ((u_2.1 7) : Int32).toInt ∧ ((u_2.1 7) : Int32).toInt ≤ 12 by omega), trivial⟩, by rw [ht]; exact hP9, va_K.moved hW.alike hK9, hD9⟩, hS.F ht⟩) hS.2.2 dX5_readCast_13
set_option maxHeartbeats 4000000 in
set_option maxRecDepth 100000 in
theorem zs_X5_readFormat (l : Launch) (dC : Nat → ClassId) (dI : Nat → Nat → Nat) (h0 : Nat) (h1 : Nat) (r0_0 : Nat) (v0_1 : Int32) (v0_2 : Int32) (v0_3 : Int32) (r1_0 : Nat) (r1_1 : Nat) (v1_2 : Int32) (v1_3 : Int32) (v1_4 : Int32) (v1_5 : Int32) (v1_6 : Int32) (v1_7 : Int32) (v2_0 : Int32) (r2_1 : Nat) (r2_2 : Nat) (r2_3 : Nat) (r2_4 : Nat) (v2_5 : Int32) (r2_6 : Nat) (r2_7 : Nat) (r2_8 : Nat) (k3 : Nat) (f3 : Nat → Int32) (v4_0 : Int32) (v4_1 : Int32) (r4_2 : Nat) (r4_3 : Nat) (r4_4 : Nat) (r4_5 : Nat) (r4_6 : Nat) (r4_7 : Nat) (r4_8 : Nat) (r4_9 : Nat) (k5 : Nat) (f5 : Nat → Int32) (k6 : Nat) (f6 : Nat → Int32) (k7 : Nat) (f7 : Nat → Int32) (k8 : Nat) (f8 : Nat → Int32) (k9 : Nat) (f9 : Nat → Int32) (k10 : Nat) (f10 : Nat → Int32) (hq_v1_2 : (0 : Int) ≤ v1_2.toInt ∧ v1_2.toInt ≤ 1200) (hq_v1_3 : (0 : Int) ≤ v1_3.toInt ∧ v1_3.toInt ≤ 1200) (hq_v1_4 : (0 : Int) ≤ v1_4.toInt ∧ v1_4.toInt ≤ 5) (hq_v1_5 : (0 : Int) ≤ v1_5.toInt ∧ v1_5.toInt ≤ 1200) (hq_v1_7 : (-1 : Int) ≤ v1_7.toInt ∧ v1_7.toInt ≤ 12) (hq_v2_0 : (0 : Int) ≤ v2_0.toInt ∧ v2_0.toInt ≤ 4) (hq_v4_0 : (0 : Int) ≤ v4_0.toInt ∧ v4_0.toInt ≤ 14) (sz : Nat) : Met l yX5_readFormat wsX5_readFormat ({ frames := 3, cells := 0, slots := 0, locals := 72 }) (va_Pc [.ref h0, .ref h1] (fun U => U.heap.size = sz ∧ va_P (dC, dI) vwCl [(h0, .inr (5, [.ref r0_0, .int v0_1, .int v0_2, .int v0_3])), (r0_0, .inr (10, [.ref r1_0, .ref r1_1, .int v1_2, .int v1_3, .int v1_4, .int v1_5, .int v1_6, .int v1_7])), (h1, .inr (9, [.int v2_0, .ref r2_1, .ref r2_2, .ref r2_3, .ref r2_4, .int v2_5, .ref r2_6, .ref r2_7, .ref r2_8])), (r2_1, .inl (k3, 4, .inl f3)), (r2_6, .inr (4, [.int v4_0, .int v4_1, .ref r4_2, .ref r4_3, .ref r4_4, .ref r4_5, .ref r4_6, .ref r4_7, .ref r4_8, .ref r4_9])), (r4_2, .inl (k5, 14, .inl f5)), (r1_1, .inl (k6, 1200, .inl f6)), (r1_0, .inl (k7, 13, .inl f7)), (r2_2, .inl (k8, 4, .inl f8)), (r2_3, .inl (k9, 4, .inl f9)), (r2_4, .inl (k10, 4, .inl f10))] U.heap ∧ va_K (dC, dI) vwCl [(k3, .int), (k5, .int), (k6, .byte), (k7, .int), (k8, .int), (k9, .int), (k10, .int)] U ∧ va_D (fun _ => True) [(h0, .inr (5, [.ref r0_0, .int v0_1, .int v0_2, .int v0_3])), (r0_0, .inr (10, [.ref r1_0, .ref r1_1, .int v1_2, .int v1_3, .int v1_4, .int v1_5, .int v1_6, .int v1_7])), (h1, .inr (9, [.int v2_0, .ref r2_1, .ref r2_2, .ref r2_3, .ref r2_4, .int v2_5, .ref r2_6, .ref r2_7, .ref r2_8])), (r2_1, .inl (k3, 4, .inl f3)), (r2_6, .inr (4, [.int v4_0, .int v4_1, .ref r4_2, .ref r4_3, .ref r4_4, .ref r4_5, .ref r4_6, .ref r4_7, .ref r4_8, .ref r4_9])), (r4_2, .inl (k5, 14, .inl f5)), (r1_1, .inl (k6, 1200, .inl f6)), (r1_0, .inl (k7, 13, .inl f7)), (r2_2, .inl (k8, 4, .inl f8)), (r2_3, .inl (k9, 4, .inl f9)), (r2_4, .inl (k10, 4, .inl f10))])) (va_Qi (fun (r : Int32) (u : zV) => ((0 : Int) ≤ r.toInt ∧ r.toInt ≤ 1) ∧ ((0 : Int) ≤ (u.1 3).toInt ∧ (u.1 3).toInt ≤ 1200) ∧ ((0 : Int) ≤ (u.1 4).toInt ∧ (u.1 4).toInt ≤ 5) ∧ ((0 : Int) ≤ (u.1 5).toInt ∧ (u.1 5).toInt ≤ 1200) ∧ ((-1 : Int) ≤ (u.1 7).toInt ∧ (u.1 7).toInt ≤ 12) ∧ ((0 : Int) ≤ (u.1 8).toInt ∧ (u.1 8).toInt ≤ 4) ∧ True) (fun u t => va_P (dC, dI) vwCl [(h0, .inr (5, [.ref r0_0, .int (u.1 0), .int (u.1 1), .int (u.1 2)])), (r0_0, .inr (10, [.ref r1_0, .ref r1_1, .int v1_2, .int (u.1 3), .int (u.1 4), .int (u.1 5), .int (u.1 6), .int (u.1 7)])), (h1, .inr (9, [.int (u.1 8), .ref r2_1, .ref r2_2, .ref r2_3, .ref r2_4, .int v2_5, .ref r2_6, .ref r2_7, .ref r2_8])), (r2_1, .inl (k3, 4, .inl (u.2.1 0))), (r2_6, .inr (4, [.int v4_0, .int v4_1, .ref r4_2, .ref r4_3, .ref r4_4, .ref r4_5, .ref r4_6, .ref r4_7, .ref r4_8, .ref r4_9])), (r4_2, .inl (k5, 14, .inl f5)), (r1_1, .inl (k6, 1200, .inl f6)), (r1_0, .inl (k7, 13, .inl f7)), (r2_2, .inl (k8, 4, .inl (u.2.1 1))), (r2_3, .inl (k9, 4, .inl (u.2.1 2))), (r2_4, .inl (k10, 4, .inl (u.2.1 3)))] t.heap ∧ va_K (dC, dI) vwCl [(k3, .int), (k5, .int), (k6, .byte), (k7, .int), (k8, .int), (k9, .int), (k10, .int)] t ∧ va_D (va_A [(h0, .inr (5, [.ref r0_0, .int v0_1, .int v0_2, .int v0_3])), (r0_0, .inr (10, [.ref r1_0, .ref r1_1, .int v1_2, .int v1_3, .int v1_4, .int v1_5, .int v1_6, .int v1_7])), (h1, .inr (9, [.int v2_0, .ref r2_1, .ref r2_2, .ref r2_3, .ref r2_4, .int v2_5, .ref r2_6, .ref r2_7, .ref r2_8])), (r2_1, .inl (k3, 4, .inl f3)), (r2_6, .inr (4, [.int v4_0, .int v4_1, .ref r4_2, .ref r4_3, .ref r4_4, .ref r4_5, .ref r4_6, .ref r4_7, .ref r4_8, .ref r4_9])), (r4_2, .inl (k5, 14, .inl f5)), (r1_1, .inl (k6, 1200, .inl f6)), (r1_0, .inl (k7, 13, .inl f7)), (r2_2, .inl (k8, 4, .inl f8)), (r2_3, .inl (k9, 4, .inl f9)), (r2_4, .inl (k10, 4, .inl f10))] sz) [(h0, .inr (5, [.ref r0_0, .int (u.1 0), .int (u.1 1), .int (u.1 2)])), (r0_0, .inr (10, [.ref r1_0, .ref r1_1, .int v1_2, .int (u.1 3), .int (u.1 4), .int (u.1 5), .int (u.1 6), .int (u.1 7)])), (h1, .inr (9, [.int (u.1 8), .ref r2_1, .ref r2_2, .ref r2_3, .ref r2_4, .int v2_5, .ref r2_6, .ref r2_7, .ref r2_8])), (r2_1, .inl (k3, 4, .inl (u.2.1 0))), (r2_6, .inr (4, [.int v4_0, .int v4_1, .ref r4_2, .ref r4_3, .ref r4_4, .ref r4_5, .ref r4_6, .ref r4_7, .ref r4_8, .ref r4_9])), (r4_2, .inl (k5, 14, .inl f5)), (r1_1, .inl (k6, 1200, .inl f6)), (r1_0, .inl (k7, 13, .inl f7)), (r2_2, .inl (k8, 4, .inl (u.2.1 1))), (r2_3, .inl (k9, 4, .inl (u.2.1 2))), (r2_4, .inl (k10, 4, .inl (u.2.1 3)))]) (va_A [(h0, .inr (5, [.ref r0_0, .int v0_1, .int v0_2, .int v0_3])), (r0_0, .inr (10, [.ref r1_0, .ref r1_1, .int v1_2, .int v1_3, .int v1_4, .int v1_5, .int v1_6, .int v1_7])), (h1, .inr (9, [.int v2_0, .ref r2_1, .ref r2_2, .ref r2_3, .ref r2_4, .int v2_5, .ref r2_6, .ref r2_7, .ref r2_8])), (r2_1, .inl (k3, 4, .inl f3)), (r2_6, .inr (4, [.int v4_0, .int v4_1, .ref r4_2, .ref r4_3, .ref r4_4, .ref r4_5, .ref r4_6, .ref r4_7, .ref r4_8, .ref r4_9])), (r4_2, .inl (k5, 14, .inl f5)), (r1_1, .inl (k6, 1200, .inl f6)), (r1_0, .inl (k7, 13, .inl f7)), (r2_2, .inl (k8, 4, .inl f8)), (r2_3, .inl (k9, 4, .inl f9)), (r2_4, .inl (k10, 4, .inl f10))] sz)) 0 0 (va_A [(h0, .inr (5, [.ref r0_0, .int v0_1, .int v0_2, .int v0_3])), (r0_0, .inr (10, [.ref r1_0, .ref r1_1, .int v1_2, .int v1_3, .int v1_4, .int v1_5, .int v1_6, .int v1_7])), (h1, .inr (9, [.int v2_0, .ref r2_1, .ref r2_2, .ref r2_3, .ref r2_4, .int v2_5, .ref r2_6, .ref r2_7, .ref r2_8])), (r2_1, .inl (k3, 4, .inl f3)), (r2_6, .inr (4, [.int v4_0, .int v4_1, .ref r4_2, .ref r4_3, .ref r4_4, .ref r4_5, .ref r4_6, .ref r4_7, .ref r4_8, .ref r4_9])), (r4_2, .inl (k5, 14, .inl f5)), (r1_1, .inl (k6, 1200, .inl f6)), (r1_0, .inl (k7, 13, .inl f7)), (r2_2, .inl (k8, 4, .inl f8)), (r2_3, .inl (k9, 4, .inl f9)), (r2_4, .inl (k10, 4, .inl f10))] sz) := by
  refine Met.ofW (cc := cX5_readFormat) (maxL := 5) (ret := (some .boolean)) (by decide +kernel) rfl ?_
  intro p e s m args below meth c s₁ B hml hv
  obtain ⟨rfl, hsz, hP, hK, hD0⟩ := hv
  have hx := B.exec
  have hb := B.bytes
  have hr := B.returns
  have hts := atoms_spec (ws := wsX5_readFormat) B.pre
  have hown : s.vm.findClass RX5 = some m.cls := findClass_of_methodNamed B.named
  have hlocks := B.notSynchronized
  subst hsz
  have hD := hD0.self (sz := s.heap.size)
  generalize hAe : va_A [(h0, .inr (5, [.ref r0_0, .int v0_1, .int v0_2, .int v0_3])), (r0_0, .inr (10, [.ref r1_0, .ref r1_1, .int v1_2, .int v1_3, .int v1_4, .int v1_5, .int v1_6, .int v1_7])), (h1, .inr (9, [.int v2_0, .ref r2_1, .ref r2_2, .ref r2_3, .ref r2_4, .int v2_5, .ref r2_6, .ref r2_7, .ref r2_8])), (r2_1, .inl (k3, 4, .inl f3)), (r2_6, .inr (4, [.int v4_0, .int v4_1, .ref r4_2, .ref r4_3, .ref r4_4, .ref r4_5, .ref r4_6, .ref r4_7, .ref r4_8, .ref r4_9])), (r4_2, .inl (k5, 14, .inl f5)), (r1_1, .inl (k6, 1200, .inl f6)), (r1_0, .inl (k7, 13, .inl f7)), (r2_2, .inl (k8, 4, .inl f8)), (r2_3, .inl (k9, 4, .inl f9)), (r2_4, .inl (k10, 4, .inl f10))] s.heap.size = A at hD ⊢
  have hA : ∀ q : Nat, s.heap.size ≤ q → A q := fun q h => by rw [← hAe]; exact Or.inr h
  have hS : va_S A s.heap s.heap [] := va_S.rf
  have hP : va_P (dC, dI) vwCl [(h0, .inr (5, [.ref r0_0, .int v0_1, .int v0_2, .int v0_3])), (r0_0, .inr (10, [.ref r1_0, .ref r1_1, .int v1_2, .int v1_3, .int v1_4, .int v1_5, .int v1_6, .int v1_7])), (h1, .inr (9, [.int v2_0, .ref r2_1, .ref r2_2, .ref r2_3, .ref r2_4, .int v2_5, .ref r2_6, .ref r2_7, .ref r2_8])), (r2_1, .inl (k3, 4, .inl f3)), (r2_6, .inr (4, [.int v4_0, .int v4_1, .ref r4_2, .ref r4_3, .ref r4_4, .ref r4_5, .ref r4_6, .ref r4_7, .ref r4_8, .ref r4_9])), (r4_2, .inl (k5, 14, .inl f5)), (r1_1, .inl (k6, 1200, .inl f6)), (r1_0, .inl (k7, 13, .inl f7)), (r2_2, .inl (k8, 4, .inl f8)), (r2_3, .inl (k9, 4, .inl f9)), (r2_4, .inl (k10, 4, .inl f10))] s.heap := hP
  have hl := lv_entry ([.ref h0, .ref h1]) (n := 5) (Nat.le_of_ble_eq_true rfl)
  rw [lg_entry_eq]
  generalize (lg_sl ([.ref h0, .ref h1]) ++ List.replicate (5 - (lg_sl ([.ref h0, .ref h1])).length) Slot.unset).toArray = ls at hl ⊢
  have hl : lv_has ls 5 [(0, .ref h0), (1, .ref h1)] := hl
  generalize hQ : MQ below (va_Qi (fun (r : Int32) (u : zV) => ((0 : Int) ≤ r.toInt ∧ r.toInt ≤ 1) ∧ ((0 : Int) ≤ (u.1 3).toInt ∧ (u.1 3).toInt ≤ 1200) ∧ ((0 : Int) ≤ (u.1 4).toInt ∧ (u.1 4).toInt ≤ 5) ∧ ((0 : Int) ≤ (u.1 5).toInt ∧ (u.1 5).toInt ≤ 1200) ∧ ((-1 : Int) ≤ (u.1 7).toInt ∧ (u.1 7).toInt ≤ 12) ∧ ((0 : Int) ≤ (u.1 8).toInt ∧ (u.1 8).toInt ≤ 4) ∧ True) (fun u t => va_P (dC, dI) vwCl [(h0, .inr (5, [.ref r0_0, .int (u.1 0), .int (u.1 1), .int (u.1 2)])), (r0_0, .inr (10, [.ref r1_0, .ref r1_1, .int v1_2, .int (u.1 3), .int (u.1 4), .int (u.1 5), .int (u.1 6), .int (u.1 7)])), (h1, .inr (9, [.int (u.1 8), .ref r2_1, .ref r2_2, .ref r2_3, .ref r2_4, .int v2_5, .ref r2_6, .ref r2_7, .ref r2_8])), (r2_1, .inl (k3, 4, .inl (u.2.1 0))), (r2_6, .inr (4, [.int v4_0, .int v4_1, .ref r4_2, .ref r4_3, .ref r4_4, .ref r4_5, .ref r4_6, .ref r4_7, .ref r4_8, .ref r4_9])), (r4_2, .inl (k5, 14, .inl f5)), (r1_1, .inl (k6, 1200, .inl f6)), (r1_0, .inl (k7, 13, .inl f7)), (r2_2, .inl (k8, 4, .inl (u.2.1 1))), (r2_3, .inl (k9, 4, .inl (u.2.1 2))), (r2_4, .inl (k10, 4, .inl (u.2.1 3)))] t.heap ∧ va_K (dC, dI) vwCl [(k3, .int), (k5, .int), (k6, .byte), (k7, .int), (k8, .int), (k9, .int), (k10, .int)] t ∧ va_D A [(h0, .inr (5, [.ref r0_0, .int (u.1 0), .int (u.1 1), .int (u.1 2)])), (r0_0, .inr (10, [.ref r1_0, .ref r1_1, .int v1_2, .int (u.1 3), .int (u.1 4), .int (u.1 5), .int (u.1 6), .int (u.1 7)])), (h1, .inr (9, [.int (u.1 8), .ref r2_1, .ref r2_2, .ref r2_3, .ref r2_4, .int v2_5, .ref r2_6, .ref r2_7, .ref r2_8])), (r2_1, .inl (k3, 4, .inl (u.2.1 0))), (r2_6, .inr (4, [.int v4_0, .int v4_1, .ref r4_2, .ref r4_3, .ref r4_4, .ref r4_5, .ref r4_6, .ref r4_7, .ref r4_8, .ref r4_9])), (r4_2, .inl (k5, 14, .inl f5)), (r1_1, .inl (k6, 1200, .inl f6)), (r1_0, .inl (k7, 13, .inl f7)), (r2_2, .inl (k8, 4, .inl (u.2.1 1))), (r2_3, .inl (k9, 4, .inl (u.2.1 2))), (r2_4, .inl (k10, 4, .inl (u.2.1 3)))]) A) ([.ref h0, .ref h1] : List Value).toArray s 0 0 A = Q
  refine lv_aload_n hx hb dX5_readFormat_0 rfl (lv_at hl 0 rfl) ?_
  refine lv_aload_n hx hb dX5_readFormat_1 rfl (lv_at hl 1 rfl) ?_
  have hPc := hP.sub (ws' := [(h0, .inr (5, [.ref r0_0, .int v0_1, .int v0_2, .int v0_3])), (r0_0, .inr (10, [.ref r1_0, .ref r1_1, .int v1_2, .int v1_3, .int v1_4, .int v1_5, .int v1_6, .int v1_7])), (h1, .inr (9, [.int v2_0, .ref r2_1, .ref r2_2, .ref r2_3, .ref r2_4, .int v2_5, .ref r2_6, .ref r2_7, .ref r2_8])), (r2_1, .inl (k3, 4, .inl f3)), (r2_6, .inr (4, [.int v4_0, .int v4_1, .ref r4_2, .ref r4_3, .ref r4_4, .ref r4_5, .ref r4_6, .ref r4_7, .ref r4_8, .ref r4_9])), (r4_2, .inl (k5, 14, .inl f5)), (r1_1, .inl (k6, 1200, .inl f6)), (r1_0, .inl (k7, 13, .inl f7))]) [0, 1, 2, 3, 4, 5, 6, 7] rfl
  have hDc := hD.sub (ws' := [(h0, .inr (5, [.ref r0_0, .int v0_1, .int v0_2, .int v0_3])), (r0_0, .inr (10, [.ref r1_0, .ref r1_1, .int v1_2, .int v1_3, .int v1_4, .int v1_5, .int v1_6, .int v1_7])), (h1, .inr (9, [.int v2_0, .ref r2_1, .ref r2_2, .ref r2_3, .ref r2_4, .int v2_5, .ref r2_6, .ref r2_7, .ref r2_8])), (r2_1, .inl (k3, 4, .inl f3)), (r2_6, .inr (4, [.int v4_0, .int v4_1, .ref r4_2, .ref r4_3, .ref r4_4, .ref r4_5, .ref r4_6, .ref r4_7, .ref r4_8, .ref r4_9])), (r4_2, .inl (k5, 14, .inl f5)), (r1_1, .inl (k6, 1200, .inl f6)), (r1_0, .inl (k7, 13, .inl f7))]) [0, 1, 2, 3, 4, 5, 6, 7] (by decide) rfl
  have hKc := hK.sub (tys' := [(k3, .int), (k5, .int), (k6, .byte), (k7, .int)]) [0, 1, 2, 3] rfl
  have hFc := va_free (wc := [(h0, .inr (5, [.ref r0_0, .int v0_1, .int v0_2, .int v0_3])), (r0_0, .inr (10, [.ref r1_0, .ref r1_1, .int v1_2, .int v1_3, .int v1_4, .int v1_5, .int v1_6, .int v1_7])), (h1, .inr (9, [.int v2_0, .ref r2_1, .ref r2_2, .ref r2_3, .ref r2_4, .int v2_5, .ref r2_6, .ref r2_7, .ref r2_8])), (r2_1, .inl (k3, 4, .inl f3)), (r2_6, .inr (4, [.int v4_0, .int v4_1, .ref r4_2, .ref r4_3, .ref r4_4, .ref r4_5, .ref r4_6, .ref r4_7, .ref r4_8, .ref r4_9])), (r4_2, .inl (k5, 14, .inl f5)), (r1_1, .inl (k6, 1200, .inl f6)), (r1_0, .inl (k7, 13, .inl f7))]) hD hS hA [0, 1, 2, 3, 4, 5, 6, 7] rfl
  refine va_calli (va_runV (As := [.ref h1]) (rest := []) ⟨hx, hb, hml, hown, hts⟩ (zs_X5_readNewName l dC dI h0 h1 r0_0 v0_1 v0_2 v0_3 r1_0 r1_1 v1_2 v1_3 v1_4 v1_5 v1_6 v1_7 v2_0 r2_1 r2_2 r2_3 r2_4 v2_5 r2_6 r2_7 r2_8 k3 f3 v4_0 v4_1 r4_2 r4_3 r4_4 r4_5 r4_6 r4_7 r4_8 r4_9 k5 f5 k6 f6 k7 f7 (by omega) (by omega) (by omega) (by omega) (by omega) (by omega) (by omega) s.heap.size) (cwV 1 hts gX5_readFormat_X5_readNewName rfl rfl rfl (by decide +kernel) ⟨Nat.le_of_ble_eq_true rfl, Nat.le_of_ble_eq_true rfl⟩) ⟨fun a U g mk q => by obtain ⟨q0, q1, qP, qK, qD⟩ := q; exact ⟨q0, q1, qP, va_K.moved (u := U) (U := U.calling g mk a) (Vm.Alike.refl U.vm) qK, qD⟩, va_recv hKc hPc (ci := 5) (q0 := 0) rfl rfl, fun U hU hW => ⟨rfl, by rw [hU], by rw [hU]; exact hPc, va_K.moved hW.alike hKc, hDc.weaken (fun _ _ _ _ => trivial)⟩⟩ rfl rfl hl.1 rfl (lv_room (Nat.le_of_ble_eq_true rfl)) dX5_readFormat_2 ⟨Nat.le_of_ble_eq_true rfl, Nat.le_of_ble_eq_true rfl⟩) hS (fun q _ h => hFc q h) hFc (fun r_1 u_2 t H1 locs ht hvm hw_3 hB hz1 hk1 hS => ?_)
  obtain ⟨hP1, hK1, hD1⟩ := hB
  rw [ht] at hP1
  have hK1 := va_K.moved hvm.symm hK1
  obtain ⟨hP, hD⟩ := va_join (wr := [(r2_2, .inl (k8, 4, .inl f8)), (r2_3, .inl (k9, 4, .inl f9)), (r2_4, .inl (k10, 4, .inl f10))]) (w1 := [(h0, .inr (5, [.ref r0_0, .int (u_2.1 0), .int (u_2.1 1), .int (u_2.1 2)])), (r0_0, .inr (10, [.ref r1_0, .ref r1_1, .int v1_2, .int (u_2.1 3), .int (u_2.1 4), .int (u_2.1 5), .int (u_2.1 6), .int (u_2.1 7)])), (h1, .inr (9, [.int v2_0, .ref r2_1, .ref r2_2, .ref r2_3, .ref r2_4, .int v2_5, .ref r2_6, .ref r2_7, .ref r2_8])), (r2_1, .inl (k3, 4, .inl f3)), (r2_6, .inr (4, [.int v4_0, .int v4_1, .ref r4_2, .ref r4_3, .ref r4_4, .ref r4_5, .ref r4_6, .ref r4_7, .ref r4_8, .ref r4_9])), (r4_2, .inl (k5, 14, .inl f5)), (r1_1, .inl (k6, 1200, .inl f6)), (r1_0, .inl (k7, 13, .inl f7))]) hP hD [0, 1, 2, 3, 4, 5, 6, 7] [8, 9, 10] rfl rfl (by decide) (by decide) hk1 hFc hP1 hD1
  have hK := hK
  generalize H1 = H at hP hS ⊢
  have hP := hP.sub (ws' := [(h0, .inr (5, [.ref r0_0, .int (u_2.1 0), .int (u_2.1 1), .int (u_2.1 2)])), (r0_0, .inr (10, [.ref r1_0, .ref r1_1, .int v1_2, .int (u_2.1 3), .int (u_2.1 4), .int (u_2.1 5), .int (u_2.1 6), .int (u_2.1 7)])), (h1, .inr (9, [.int v2_0, .ref r2_1, .ref r2_2, .ref r2_3, .ref r2_4, .int v2_5, .ref r2_6, .ref r2_7, .ref r2_8])), (r2_1, .inl (k3, 4, .inl f3)), (r2_6, .inr (4, [.int v4_0, .int v4_1, .ref r4_2, .ref r4_3, .ref r4_4, .ref r4_5, .ref r4_6, .ref r4_7, .ref r4_8, .ref r4_9])), (r4_2, .inl (k5, 14, .inl f5)), (r1_1, .inl (k6, 1200, .inl f6)), (r1_0, .inl (k7, 13, .inl f7)), (r2_2, .inl (k8, 4, .inl f8)), (r2_3, .inl (k9, 4, .inl f9)), (r2_4, .inl (k10, 4, .inl f10))]) [3, 4, 5, 6, 7, 8, 9, 10, 0, 1, 2] rfl
  have hD := hD.sub (ws' := [(h0, .inr (5, [.ref r0_0, .int (u_2.1 0), .int (u_2.1 1), .int (u_2.1 2)])), (r0_0, .inr (10, [.ref r1_0, .ref r1_1, .int v1_2, .int (u_2.1 3), .int (u_2.1 4), .int (u_2.1 5), .int (u_2.1 6), .int (u_2.1 7)])), (h1, .inr (9, [.int v2_0, .ref r2_1, .ref r2_2, .ref r2_3, .ref r2_4, .int v2_5, .ref r2_6, .ref r2_7, .ref r2_8])), (r2_1, .inl (k3, 4, .inl f3)), (r2_6, .inr (4, [.int v4_0, .int v4_1, .ref r4_2, .ref r4_3, .ref r4_4, .ref r4_5, .ref r4_6, .ref r4_7, .ref r4_8, .ref r4_9])), (r4_2, .inl (k5, 14, .inl f5)), (r1_1, .inl (k6, 1200, .inl f6)), (r1_0, .inl (k7, 13, .inl f7)), (r2_2, .inl (k8, 4, .inl f8)), (r2_3, .inl (k9, 4, .inl f9)), (r2_4, .inl (k10, 4, .inl f10))]) [3, 4, 5, 6, 7, 8, 9, 10, 0, 1, 2] (by decide) rfl
  have hP : va_P (dC, dI) vwCl [(h0, .inr (5, [.ref r0_0, .int (u_2.1 0), .int (u_2.1 1), .int (u_2.1 2)])), (r0_0, .inr (10, [.ref r1_0, .ref r1_1, .int v1_2, .int (u_2.1 3), .int (u_2.1 4), .int (u_2.1 5), .int (u_2.1 6), .int (u_2.1 7)])), (h1, .inr (9, [.int v2_0, .ref r2_1, .ref r2_2, .ref r2_3, .ref r2_4, .int v2_5, .ref r2_6, .ref r2_7, .ref r2_8])), (r2_1, .inl (k3, 4, .inl f3)), (r2_6, .inr (4, [.int v4_0, .int v4_1, .ref r4_2, .ref r4_3, .ref r4_4, .ref r4_5, .ref r4_6, .ref r4_7, .ref r4_8, .ref r4_9])), (r4_2, .inl (k5, 14, .inl f5)), (r1_1, .inl (k6, 1200, .inl f6)), (r1_0, .inl (k7, 13, .inl f7)), (r2_2, .inl (k8, 4, .inl f8)), (r2_3, .inl (k9, 4, .inl f9)), (r2_4, .inl (k10, 4, .inl f10))] H := hP
  have hD : va_D A [(h0, .inr (5, [.ref r0_0, .int (u_2.1 0), .int (u_2.1 1), .int (u_2.1 2)])), (r0_0, .inr (10, [.ref r1_0, .ref r1_1, .int v1_2, .int (u_2.1 3), .int (u_2.1 4), .int (u_2.1 5), .int (u_2.1 6), .int (u_2.1 7)])), (h1, .inr (9, [.int v2_0, .ref r2_1, .ref r2_2, .ref r2_3, .ref r2_4, .int v2_5, .ref r2_6, .ref r2_7, .ref r2_8])), (r2_1, .inl (k3, 4, .inl f3)), (r2_6, .inr (4, [.int v4_0, .int v4_1, .ref r4_2, .ref r4_3, .ref r4_4, .ref r4_5, .ref r4_6, .ref r4_7, .ref r4_8, .ref r4_9])), (r4_2, .inl (k5, 14, .inl f5)), (r1_1, .inl (k6, 1200, .inl f6)), (r1_0, .inl (k7, 13, .inl f7)), (r2_2, .inl (k8, 4, .inl f8)), (r2_3, .inl (k9, 4, .inl f9)), (r2_4, .inl (k10, 4, .inl f10))] := hD
  obtain ⟨hr_1, hmr_1_1, hmr_1_2, hmr_1_3, hmr_1_4, -⟩ := hw_3
  refine lv_if_ne (tgt := 10) hx hb dX5_readFormat_5 (by decide) (fun c_4 => ?_) (fun c_4 => ?_)
  · have oc_4 := zk_ne rfl (by decide +kernel : (0 : Int32).toInt = 0) c_4
    refine lv_aload_n hx hb dX5_readFormat_10 rfl (lv_at hl 0 rfl) ?_
    refine va_get (D := (dC, dI)) (ci := 5) (v := .int (u_2.1 0)) (C := RX5) (T := TX5) (N := 4) hx hb hts zn_X5_readFormat_X5 hown hK hP 0 rfl rfl 1 (by decide) (hts (.fieldLink RX5 102 "ShortEnough$Parser" "got" "I") zw_X5_readFormat_323) (fun _ h9 => h9) rfl dX5_readFormat_11 ?_
    refine lv_istore_n (lv' := [(2, .int (u_2.1 0)), (0, .ref h0), (1, .ref h1)]) hx hb dX5_readFormat_14 rfl hl (by decide) rfl (fun ls hl => ?_)
    refine lv_aload_n hx hb dX5_readFormat_15 rfl (lv_at hl 1 rfl) ?_
    refine lv_iconst (v := 1) hx hb dX5_readFormat_16 (by decide +kernel) ?_
    have hPc := hP.sub (ws' := [(h0, .inr (5, [.ref r0_0, .int (u_2.1 0), .int (u_2.1 1), .int (u_2.1 2)])), (r0_0, .inr (10, [.ref r1_0, .ref r1_1, .int v1_2, .int (u_2.1 3), .int (u_2.1 4), .int (u_2.1 5), .int (u_2.1 6), .int (u_2.1 7)])), (r1_1, .inl (k6, 1200, .inl f6)), (r1_0, .inl (k7, 13, .inl f7))]) [0, 1, 6, 7] rfl
    have hDc := hD.sub (ws' := [(h0, .inr (5, [.ref r0_0, .int (u_2.1 0), .int (u_2.1 1), .int (u_2.1 2)])), (r0_0, .inr (10, [.ref r1_0, .ref r1_1, .int v1_2, .int (u_2.1 3), .int (u_2.1 4), .int (u_2.1 5), .int (u_2.1 6), .int (u_2.1 7)])), (r1_1, .inl (k6, 1200, .inl f6)), (r1_0, .inl (k7, 13, .inl f7))]) [0, 1, 6, 7] (by decide) rfl
    have hKc := hK.sub (tys' := [(k6, .byte), (k7, .int)]) [2, 3] rfl
    have hFc := va_free (wc := [(h0, .inr (5, [.ref r0_0, .int (u_2.1 0), .int (u_2.1 1), .int (u_2.1 2)])), (r0_0, .inr (10, [.ref r1_0, .ref r1_1, .int v1_2, .int (u_2.1 3), .int (u_2.1 4), .int (u_2.1 5), .int (u_2.1 6), .int (u_2.1 7)])), (r1_1, .inl (k6, 1200, .inl f6)), (r1_0, .inl (k7, 13, .inl f7))]) hD hS hA [0, 1, 6, 7] rfl
    refine va_calli (va_runV (As := [.int 1]) (rest := []) ⟨hx, hb, hml, hown, hts⟩ (zs_X5_readOwn l dC dI h0 1 r0_0 (u_2.1 0) (u_2.1 1) (u_2.1 2) r1_0 r1_1 v1_2 (u_2.1 3) (u_2.1 4) (u_2.1 5) (u_2.1 6) (u_2.1 7) k6 f6 k7 f7 (by omega) (by omega) (by omega) (by omega) (by omega) H.size) (cwV 1 hts gX5_readFormat_X5_readOwn rfl rfl rfl (by decide +kernel) ⟨Nat.le_of_ble_eq_true rfl, Nat.le_of_ble_eq_true rfl⟩) ⟨fun a U g mk q => by obtain ⟨q0, q1, qP, qK, qD⟩ := q; exact ⟨q0, q1, qP, va_K.moved (u := U) (U := U.calling g mk a) (Vm.Alike.refl U.vm) qK, qD⟩, va_recv hKc hPc (ci := 5) (q0 := 0) rfl rfl, fun U hU hW => ⟨rfl, by rw [hU], by rw [hU]; exact hPc, va_K.moved hW.alike hKc, hDc.weaken (fun _ _ _ _ => trivial)⟩⟩ rfl rfl hl.1 rfl (lv_room (Nat.le_of_ble_eq_true rfl)) dX5_readFormat_17 ⟨Nat.le_of_ble_eq_true rfl, Nat.le_of_ble_eq_true rfl⟩) hS (fun q _ h => hFc q h) hFc (fun r_5 u_6 t H1 locs ht hvm hw_7 hB hz1 hk1 hS => ?_)
    obtain ⟨hP1, hK1, hD1⟩ := hB
    rw [ht] at hP1
    have hK1 := va_K.moved hvm.symm hK1
    obtain ⟨hP, hD⟩ := va_join (wr := [(h1, .inr (9, [.int v2_0, .ref r2_1, .ref r2_2, .ref r2_3, .ref r2_4, .int v2_5, .ref r2_6, .ref r2_7, .ref r2_8])), (r2_1, .inl (k3, 4, .inl f3)), (r2_6, .inr (4, [.int v4_0, .int v4_1, .ref r4_2, .ref r4_3, .ref r4_4, .ref r4_5, .ref r4_6, .ref r4_7, .ref r4_8, .ref r4_9])), (r4_2, .inl (k5, 14, .inl f5)), (r2_2, .inl (k8, 4, .inl f8)), (r2_3, .inl (k9, 4, .inl f9)), (r2_4, .inl (k10, 4, .inl f10))]) (w1 := [(h0, .inr (5, [.ref r0_0, .int (u_2.1 0), .int (u_6.1 0), .int (u_6.1 1)])), (r0_0, .inr (10, [.ref r1_0, .ref r1_1, .int v1_2, .int (u_6.1 2), .int (u_6.1 3), .int (u_6.1 4), .int (u_6.1 5), .int (u_6.1 6)])), (r1_1, .inl (k6, 1200, .inl f6)), (r1_0, .inl (k7, 13, .inl f7))]) hP hD [0, 1, 6, 7] [2, 3, 4, 5, 8, 9, 10] rfl rfl (by decide) (by decide) hk1 hFc hP1 hD1
    have hK := hK
    generalize H1 = H at hP hS ⊢
    have hP := hP.sub (ws' := [(h0, .inr (5, [.ref r0_0, .int (u_2.1 0), .int (u_6.1 0), .int (u_6.1 1)])), (r0_0, .inr (10, [.ref r1_0, .ref r1_1, .int v1_2, .int (u_6.1 2), .int (u_6.1 3), .int (u_6.1 4), .int (u_6.1 5), .int (u_6.1 6)])), (h1, .inr (9, [.int v2_0, .ref r2_1, .ref r2_2, .ref r2_3, .ref r2_4, .int v2_5, .ref r2_6, .ref r2_7, .ref r2_8])), (r2_1, .inl (k3, 4, .inl f3)), (r2_6, .inr (4, [.int v4_0, .int v4_1, .ref r4_2, .ref r4_3, .ref r4_4, .ref r4_5, .ref r4_6, .ref r4_7, .ref r4_8, .ref r4_9])), (r4_2, .inl (k5, 14, .inl f5)), (r1_1, .inl (k6, 1200, .inl f6)), (r1_0, .inl (k7, 13, .inl f7)), (r2_2, .inl (k8, 4, .inl f8)), (r2_3, .inl (k9, 4, .inl f9)), (r2_4, .inl (k10, 4, .inl f10))]) [7, 8, 0, 1, 2, 3, 9, 10, 4, 5, 6] rfl
    have hD := hD.sub (ws' := [(h0, .inr (5, [.ref r0_0, .int (u_2.1 0), .int (u_6.1 0), .int (u_6.1 1)])), (r0_0, .inr (10, [.ref r1_0, .ref r1_1, .int v1_2, .int (u_6.1 2), .int (u_6.1 3), .int (u_6.1 4), .int (u_6.1 5), .int (u_6.1 6)])), (h1, .inr (9, [.int v2_0, .ref r2_1, .ref r2_2, .ref r2_3, .ref r2_4, .int v2_5, .ref r2_6, .ref r2_7, .ref r2_8])), (r2_1, .inl (k3, 4, .inl f3)), (r2_6, .inr (4, [.int v4_0, .int v4_1, .ref r4_2, .ref r4_3, .ref r4_4, .ref r4_5, .ref r4_6, .ref r4_7, .ref r4_8, .ref r4_9])), (r4_2, .inl (k5, 14, .inl f5)), (r1_1, .inl (k6, 1200, .inl f6)), (r1_0, .inl (k7, 13, .inl f7)), (r2_2, .inl (k8, 4, .inl f8)), (r2_3, .inl (k9, 4, .inl f9)), (r2_4, .inl (k10, 4, .inl f10))]) [7, 8, 0, 1, 2, 3, 9, 10, 4, 5, 6] (by decide) rfl
    have hP : va_P (dC, dI) vwCl [(h0, .inr (5, [.ref r0_0, .int (u_2.1 0), .int (u_6.1 0), .int (u_6.1 1)])), (r0_0, .inr (10, [.ref r1_0, .ref r1_1, .int v1_2, .int (u_6.1 2), .int (u_6.1 3), .int (u_6.1 4), .int (u_6.1 5), .int (u_6.1 6)])), (h1, .inr (9, [.int v2_0, .ref r2_1, .ref r2_2, .ref r2_3, .ref r2_4, .int v2_5, .ref r2_6, .ref r2_7, .ref r2_8])), (r2_1, .inl (k3, 4, .inl f3)), (r2_6, .inr (4, [.int v4_0, .int v4_1, .ref r4_2, .ref r4_3, .ref r4_4, .ref r4_5, .ref r4_6, .ref r4_7, .ref r4_8, .ref r4_9])), (r4_2, .inl (k5, 14, .inl f5)), (r1_1, .inl (k6, 1200, .inl f6)), (r1_0, .inl (k7, 13, .inl f7)), (r2_2, .inl (k8, 4, .inl f8)), (r2_3, .inl (k9, 4, .inl f9)), (r2_4, .inl (k10, 4, .inl f10))] H := hP
    have hD : va_D A [(h0, .inr (5, [.ref r0_0, .int (u_2.1 0), .int (u_6.1 0), .int (u_6.1 1)])), (r0_0, .inr (10, [.ref r1_0, .ref r1_1, .int v1_2, .int (u_6.1 2), .int (u_6.1 3), .int (u_6.1 4), .int (u_6.1 5), .int (u_6.1 6)])), (h1, .inr (9, [.int v2_0, .ref r2_1, .ref r2_2, .ref r2_3, .ref r2_4, .int v2_5, .ref r2_6, .ref r2_7, .ref r2_8])), (r2_1, .inl (k3, 4, .inl f3)), (r2_6, .inr (4, [.int v4_0, .int v4_1, .ref r4_2, .ref r4_3, .ref r4_4, .ref r4_5, .ref r4_6, .ref r4_7, .ref r4_8, .ref r4_9])), (r4_2, .inl (k5, 14, .inl f5)), (r1_1, .inl (k6, 1200, .inl f6)), (r1_0, .inl (k7, 13, .inl f7)), (r2_2, .inl (k8, 4, .inl f8)), (r2_3, .inl (k9, 4, .inl f9)), (r2_4, .inl (k10, 4, .inl f10))] := hD
    obtain ⟨hr_5, hmr_5_1, hmr_5_2, hmr_5_3, hmr_5_4, -⟩ := hw_7
    refine lv_if_eq (tgt := 34) hx hb dX5_readFormat_20 (by decide) (fun c_8 => ?_) (fun c_8 => ?_)
    · have oc_8 := zk_eq rfl (by decide +kernel : (0 : Int32).toInt = 0) c_8
      refine lv_iconst (v := 0) hx hb dX5_readFormat_34 (by decide +kernel) ?_
      have hP9 := hP.sub (ws' := [(h0, .inr (5, [.ref r0_0, .int (u_2.1 0), .int (u_6.1 0), .int (u_6.1 1)])), (r0_0, .inr (10, [.ref r1_0, .ref r1_1, .int v1_2, .int (u_6.1 2), .int (u_6.1 3), .int (u_6.1 4), .int (u_6.1 5), .int (u_6.1 6)])), (h1, .inr (9, [.int v2_0, .ref r2_1, .ref r2_2, .ref r2_3, .ref r2_4, .int v2_5, .ref r2_6, .ref r2_7, .ref r2_8])), (r2_1, .inl (k3, 4, .inl f3)), (r2_6, .inr (4, [.int v4_0, .int v4_1, .ref r4_2, .ref r4_3, .ref r4_4, .ref r4_5, .ref r4_6, .ref r4_7, .ref r4_8, .ref r4_9])), (r4_2, .inl (k5, 14, .inl f5)), (r1_1, .inl (k6, 1200, .inl f6)), (r1_0, .inl (k7, 13, .inl f7)), (r2_2, .inl (k8, 4, .inl f8)), (r2_3, .inl (k9, 4, .inl f9)), (r2_4, .inl (k10, 4, .inl f10))]) [0, 1, 2, 3, 4, 5, 6, 7, 8, 9, 10] rfl
      have hD9 := hD.sub (ws' := [(h0, .inr (5, [.ref r0_0, .int (u_2.1 0), .int (u_6.1 0), .int (u_6.1 1)])), (r0_0, .inr (10, [.ref r1_0, .ref r1_1, .int v1_2, .int (u_6.1 2), .int (u_6.1 3), .int (u_6.1 4), .int (u_6.1 5), .int (u_6.1 6)])), (h1, .inr (9, [.int v2_0, .ref r2_1, .ref r2_2, .ref r2_3, .ref r2_4, .int v2_5, .ref r2_6, .ref r2_7, .ref r2_8])), (r2_1, .inl (k3, 4, .inl f3)), (r2_6, .inr (4, [.int v4_0, .int v4_1, .ref r4_2, .ref r4_3, .ref r4_4, .ref r4_5, .ref r4_6, .ref r4_7, .ref r4_8, .ref r4_9])), (r4_2, .inl (k5, 14, .inl f5)), (r1_1, .inl (k6, 1200, .inl f6)), (r1_0, .inl (k7, 13, .inl f7)), (r2_2, .inl (k8, 4, .inl f8)), (r2_3, .inl (k9, 4, .inl f9)), (r2_4, .inl (k10, 4, .inl f10))]) [0, 1, 2, 3, 4, 5, 6, 7, 8, 9, 10] (by decide) rfl
      have hK9 := hK.sub (tys' := [(k3, .int), (k5, .int), (k6, .byte), (k7, .int), (k8, .int), (k9, .int), (k10, .int)]) [0, 1, 2, 3, 4, 5, 6] rfl
      rw [← hQ]
      exact W.zret (v := 0) hx hb hr rfl (fun t ht hW => ⟨⟨0, ((fun k => ([(u_2.1 0), (u_6.1 0), (u_6.1 1), (u_6.1 2), (u_6.1 3), (u_6.1 4), (u_6.1 5), (u_6.1 6), v2_0] : List Int32).getD k 0), (fun k => ([f3, f8, f9, f10] : List (Nat → Int32)).getD k (fun _ => 0)), (fun k => ([] : List (Nat → Int64)).getD k (fun _ => 0))), rfl, ⟨(show (0 : Int) ≤ (0 : Int32).toInt ∧ (0 : Int32).toInt ≤ 1 by decide +kernel), (show (0 : Int) ≤ ((u_6.1 2) : Int32).toInt ∧ ((u_6.1 2) : Int32).toInt ≤ 1200 by omega), (show (0 : Int) ≤ ((u_6.1 3) : Int32).toInt ∧ ((u_6.1 3) : Int32).toInt ≤ 5 by omega), (show (0 : Int) ≤ ((u_6.1 4) : Int32).toInt ∧ ((u_6.1 4) : Int32).toInt ≤ 1200 by omega), (show (-1 : Int) ≤ ((u_6.1 6) : Int32).toInt ∧ ((u_6.1 6) : Int32).toInt ≤ 12 by omega), (show (0 : Int) ≤ (v2_0 : Int32).toInt ∧ (v2_0 : Int32).toInt ≤ 4 by omega), trivial⟩, by rw [ht]; exact hP9, va_K.moved hW.alike hK9, hD9⟩, hS.F ht⟩) hS.2.2 dX5_readFormat_35
    have oc_8 := zk_ne rfl (by decide +kernel : (0 : Int32).toInt = 0) c_8
    refine lv_aload_n hx hb dX5_readFormat_23 rfl (lv_at hl 1 rfl) ?_
    refine lv_iconst (v := 0) hx hb dX5_readFormat_24 (by decide +kernel) ?_
    refine lv_iconst (v := 1) hx hb dX5_readFormat_25 (by decide +kernel) ?_
    refine lv_ldc (v := 1000000) hx hb hown (hts (.constant RX5 108 (1000000)) zw_X5_readFormat_324) dX5_readFormat_26 ?_
    have hPc := hP.sub (ws' := [(h0, .inr (5, [.ref r0_0, .int (u_2.1 0), .int (u_6.1 0), .int (u_6.1 1)])), (r0_0, .inr (10, [.ref r1_0, .ref r1_1, .int v1_2, .int (u_6.1 2), .int (u_6.1 3), .int (u_6.1 4), .int (u_6.1 5), .int (u_6.1 6)])), (r1_1, .inl (k6, 1200, .inl f6)), (r1_0, .inl (k7, 13, .inl f7))]) [0, 1, 6, 7] rfl
    have hDc := hD.sub (ws' := [(h0, .inr (5, [.ref r0_0, .int (u_2.1 0), .int (u_6.1 0), .int (u_6.1 1)])), (r0_0, .inr (10, [.ref r1_0, .ref r1_1, .int v1_2, .int (u_6.1 2), .int (u_6.1 3), .int (u_6.1 4), .int (u_6.1 5), .int (u_6.1 6)])), (r1_1, .inl (k6, 1200, .inl f6)), (r1_0, .inl (k7, 13, .inl f7))]) [0, 1, 6, 7] (by decide) rfl
    have hKc := hK.sub (tys' := [(k6, .byte), (k7, .int)]) [2, 3] rfl
    have hFc := va_free (wc := [(h0, .inr (5, [.ref r0_0, .int (u_2.1 0), .int (u_6.1 0), .int (u_6.1 1)])), (r0_0, .inr (10, [.ref r1_0, .ref r1_1, .int v1_2, .int (u_6.1 2), .int (u_6.1 3), .int (u_6.1 4), .int (u_6.1 5), .int (u_6.1 6)])), (r1_1, .inl (k6, 1200, .inl f6)), (r1_0, .inl (k7, 13, .inl f7))]) hD hS hA [0, 1, 6, 7] rfl
    refine va_calli (va_runV (As := [.int 0, .int 1, .int 1000000]) (rest := []) ⟨hx, hb, hml, hown, hts⟩ (zs_X5_readValue l dC dI h0 0 1 1000000 r0_0 (u_2.1 0) (u_6.1 0) (u_6.1 1) r1_0 r1_1 v1_2 (u_6.1 2) (u_6.1 3) (u_6.1 4) (u_6.1 5) (u_6.1 6) k6 f6 k7 f7 (by decide +kernel) (by omega) (by omega) (by omega) (by omega) (by omega) H.size) (cwV 3 hts gX5_readFormat_X5_readValue rfl rfl rfl (by decide +kernel) ⟨Nat.le_of_ble_eq_true rfl, Nat.le_of_ble_eq_true rfl⟩) ⟨fun a U g mk q => by obtain ⟨q0, q1, qP, qK, qD⟩ := q; exact ⟨q0, q1, qP, va_K.moved (u := U) (U := U.calling g mk a) (Vm.Alike.refl U.vm) qK, qD⟩, va_recv hKc hPc (ci := 5) (q0 := 0) rfl rfl, fun U hU hW => ⟨rfl, by rw [hU], by rw [hU]; exact hPc, va_K.moved hW.alike hKc, hDc.weaken (fun _ _ _ _ => trivial)⟩⟩ rfl rfl hl.1 rfl (lv_room (Nat.le_of_ble_eq_true rfl)) dX5_readFormat_28 ⟨Nat.le_of_ble_eq_true rfl, Nat.le_of_ble_eq_true rfl⟩) hS (fun q _ h => hFc q h) hFc (fun r_9 u_10 t H1 locs ht hvm hw_11 hB hz1 hk1 hS => ?_)
    obtain ⟨hP1, hK1, hD1⟩ := hB
    rw [ht] at hP1
    have hK1 := va_K.moved hvm.symm hK1
    obtain ⟨hP, hD⟩ := va_join (wr := [(h1, .inr (9, [.int v2_0, .ref r2_1, .ref r2_2, .ref r2_3, .ref r2_4, .int v2_5, .ref r2_6, .ref r2_7, .ref r2_8])), (r2_1, .inl (k3, 4, .inl f3)), (r2_6, .inr (4, [.int v4_0, .int v4_1, .ref r4_2, .ref r4_3, .ref r4_4, .ref r4_5, .ref r4_6, .ref r4_7, .ref r4_8, .ref r4_9])), (r4_2, .inl (k5, 14, .inl f5)), (r2_2, .inl (k8, 4, .inl f8)), (r2_3, .inl (k9, 4, .inl f9)), (r2_4, .inl (k10, 4, .inl f10))]) (w1 := [(h0, .inr (5, [.ref r0_0, .int (u_10.1 0), .int (u_10.1 1), .int (u_10.1 2)])), (r0_0, .inr (10, [.ref r1_0, .ref r1_1, .int v1_2, .int (u_10.1 3), .int (u_10.1 4), .int (u_10.1 5), .int (u_10.1 6), .int (u_10.1 7)])), (r1_1, .inl (k6, 1200, .inl f6)), (r1_0, .inl (k7, 13, .inl f7))]) hP hD [0, 1, 6, 7] [2, 3, 4, 5, 8, 9, 10] rfl rfl (by decide) (by decide) hk1 hFc hP1 hD1
    have hK := hK
    generalize H1 = H at hP hS ⊢
    have hP := hP.sub (ws' := [(h0, .inr (5, [.ref r0_0, .int (u_10.1 0), .int (u_10.1 1), .int (u_10.1 2)])), (r0_0, .inr (10, [.ref r1_0, .ref r1_1, .int v1_2, .int (u_10.1 3), .int (u_10.1 4), .int (u_10.1 5), .int (u_10.1 6), .int (u_10.1 7)])), (h1, .inr (9, [.int v2_0, .ref r2_1, .ref r2_2, .ref r2_3, .ref r2_4, .int v2_5, .ref r2_6, .ref r2_7, .ref r2_8])), (r2_1, .inl (k3, 4, .inl f3)), (r2_6, .inr (4, [.int v4_0, .int v4_1, .ref r4_2, .ref r4_3, .ref r4_4, .ref r4_5, .ref r4_6, .ref r4_7, .ref r4_8, .ref r4_9])), (r4_2, .inl (k5, 14, .inl f5)), (r1_1, .inl (k6, 1200, .inl f6)), (r1_0, .inl (k7, 13, .inl f7)), (r2_2, .inl (k8, 4, .inl f8)), (r2_3, .inl (k9, 4, .inl f9)), (r2_4, .inl (k10, 4, .inl f10))]) [7, 8, 0, 1, 2, 3, 9, 10, 4, 5, 6] rfl
    have hD := hD.sub (ws' := [(h0, .inr (5, [.ref r0_0, .int (u_10.1 0), .int (u_10.1 1), .int (u_10.1 2)])), (r0_0, .inr (10, [.ref r1_0, .ref r1_1, .int v1_2, .int (u_10.1 3), .int (u_10.1 4), .int (u_10.1 5), .int (u_10.1 6), .int (u_10.1 7)])), (h1, .inr (9, [.int v2_0, .ref r2_1, .ref r2_2, .ref r2_3, .ref r2_4, .int v2_5, .ref r2_6, .ref r2_7, .ref r2_8])), (r2_1, .inl (k3, 4, .inl f3)), (r2_6, .inr (4, [.int v4_0, .int v4_1, .ref r4_2, .ref r4_3, .ref r4_4, .ref r4_5, .ref r4_6, .ref r4_7, .ref r4_8, .ref r4_9])), (r4_2, .inl (k5, 14, .inl f5)), (r1_1, .inl (k6, 1200, .inl f6)), (r1_0, .inl (k7, 13, .inl f7)), (r2_2, .inl (k8, 4, .inl f8)), (r2_3, .inl (k9, 4, .inl f9)), (r2_4, .inl (k10, 4, .inl f10))]) [7, 8, 0, 1, 2, 3, 9, 10, 4, 5, 6] (by decide) rfl
    have hP : va_P (dC, dI) vwCl [(h0, .inr (5, [.ref r0_0, .int (u_10.1 0), .int (u_10.1 1), .int (u_10.1 2)])), (r0_0, .inr (10, [.ref r1_0, .ref r1_1, .int v1_2, .int (u_10.1 3), .int (u_10.1 4), .int (u_10.1 5), .int (u_10.1 6), .int (u_10.1 7)])), (h1, .inr (9, [.int v2_0, .ref r2_1, .ref r2_2, .ref r2_3, .ref r2_4, .int v2_5, .ref r2_6, .ref r2_7, .ref r2_8])), (r2_1, .inl (k3, 4, .inl f3)), (r2_6, .inr (4, [.int v4_0, .int v4_1, .ref r4_2, .ref r4_3, .ref r4_4, .ref r4_5, .ref r4_6, .ref r4_7, .ref r4_8, .ref r4_9])), (r4_2, .inl (k5, 14, .inl f5)), (r1_1, .inl (k6, 1200, .inl f6)), (r1_0, .inl (k7, 13, .inl f7)), (r2_2, .inl (k8, 4, .inl f8)), (r2_3, .inl (k9, 4, .inl f9)), (r2_4, .inl (k10, 4, .inl f10))] H := hP
    have hD : va_D A [(h0, .inr (5, [.ref r0_0, .int (u_10.1 0), .int (u_10.1 1), .int (u_10.1 2)])), (r0_0, .inr (10, [.ref r1_0, .ref r1_1, .int v1_2, .int (u_10.1 3), .int (u_10.1 4), .int (u_10.1 5), .int (u_10.1 6), .int (u_10.1 7)])), (h1, .inr (9, [.int v2_0, .ref r2_1, .ref r2_2, .ref r2_3, .ref r2_4, .int v2_5, .ref r2_6, .ref r2_7, .ref r2_8])), (r2_1, .inl (k3, 4, .inl f3)), (r2_6, .inr (4, [.int v4_0, .int v4_1, .ref r4_2, .ref r4_3, .ref r4_4, .ref r4_5, .ref r4_6, .ref r4_7, .ref r4_8, .ref r4_9])), (r4_2, .inl (k5, 14, .inl f5)), (r1_1, .inl (k6, 1200, .inl f6)), (r1_0, .inl (k7, 13, .inl f7)), (r2_2, .inl (k8, 4, .inl f8)), (r2_3, .inl (k9, 4, .inl f9)), (r2_4, .inl (k10, 4, .inl f10))] := hD
    obtain ⟨hr_9, hmr_9_1, hmr_9_2, hmr_9_3, hmr_9_4, -⟩ := hw_11
    refine lv_if_ne (tgt := 36) hx hb dX5_readFormat_31 (by decide) (fun c_12 => ?_) (fun c_12 => ?_)
    · have oc_12 := zk_ne rfl (by decide +kernel : (0 : Int32).toInt = 0) c_12
      refine lv_aload_n hx hb dX5_readFormat_36 rfl (lv_at hl 1 rfl) ?_
      refine va_get (D := (dC, dI)) (ci := 5) (v := .int (u_10.1 0)) (C := RX5) (T := TX5) (N := 4) hx hb hts zn_X5_readFormat_X5 hown hK hP 0 rfl rfl 1 (by decide) (hts (.fieldLink RX5 102 "ShortEnough$Parser" "got" "I") zw_X5_readFormat_323) (fun _ h9 => h9) rfl dX5_readFormat_37 ?_
      refine lv_istore_n (lv' := [(3, .int (u_10.1 0)), (2, .int (u_2.1 0)), (0, .ref h0), (1, .ref h1)]) hx hb dX5_readFormat_40 rfl hl (by decide) rfl (fun ls hl => ?_)
      refine lv_aload_n hx hb dX5_readFormat_41 rfl (lv_at hl 2 rfl) ?_
      refine lv_iconst (v := 2) hx hb dX5_readFormat_42 (by decide +kernel) ?_
      have hPc := hP.sub (ws' := [(h0, .inr (5, [.ref r0_0, .int (u_10.1 0), .int (u_10.1 1), .int (u_10.1 2)])), (r0_0, .inr (10, [.ref r1_0, .ref r1_1, .int v1_2, .int (u_10.1 3), .int (u_10.1 4), .int (u_10.1 5), .int (u_10.1 6), .int (u_10.1 7)])), (r1_1, .inl (k6, 1200, .inl f6)), (r1_0, .inl (k7, 13, .inl f7))]) [0, 1, 6, 7] rfl
      have hDc := hD.sub (ws' := [(h0, .inr (5, [.ref r0_0, .int (u_10.1 0), .int (u_10.1 1), .int (u_10.1 2)])), (r0_0, .inr (10, [.ref r1_0, .ref r1_1, .int v1_2, .int (u_10.1 3), .int (u_10.1 4), .int (u_10.1 5), .int (u_10.1 6), .int (u_10.1 7)])), (r1_1, .inl (k6, 1200, .inl f6)), (r1_0, .inl (k7, 13, .inl f7))]) [0, 1, 6, 7] (by decide) rfl
      have hKc := hK.sub (tys' := [(k6, .byte), (k7, .int)]) [2, 3] rfl
      have hFc := va_free (wc := [(h0, .inr (5, [.ref r0_0, .int (u_10.1 0), .int (u_10.1 1), .int (u_10.1 2)])), (r0_0, .inr (10, [.ref r1_0, .ref r1_1, .int v1_2, .int (u_10.1 3), .int (u_10.1 4), .int (u_10.1 5), .int (u_10.1 6), .int (u_10.1 7)])), (r1_1, .inl (k6, 1200, .inl f6)), (r1_0, .inl (k7, 13, .inl f7))]) hD hS hA [0, 1, 6, 7] rfl
      refine va_calli (va_runV (As := [.int 2]) (rest := []) ⟨hx, hb, hml, hown, hts⟩ (zs_X5_readOwn l dC dI h0 2 r0_0 (u_10.1 0) (u_10.1 1) (u_10.1 2) r1_0 r1_1 v1_2 (u_10.1 3) (u_10.1 4) (u_10.1 5) (u_10.1 6) (u_10.1 7) k6 f6 k7 f7 (by omega) (by omega) (by omega) (by omega) (by omega) H.size) (cwV 1 hts gX5_readFormat_X5_readOwn rfl rfl rfl (by decide +kernel) ⟨Nat.le_of_ble_eq_true rfl, Nat.le_of_ble_eq_true rfl⟩) ⟨fun a U g mk q => by obtain ⟨q0, q1, qP, qK, qD⟩ := q; exact ⟨q0, q1, qP, va_K.moved (u := U) (U := U.calling g mk a) (Vm.Alike.refl U.vm) qK, qD⟩, va_recv hKc hPc (ci := 5) (q0 := 0) rfl rfl, fun U hU hW => ⟨rfl, by rw [hU], by rw [hU]; exact hPc, va_K.moved hW.alike hKc, hDc.weaken (fun _ _ _ _ => trivial)⟩⟩ rfl rfl hl.1 rfl (lv_room (Nat.le_of_ble_eq_true rfl)) dX5_readFormat_43 ⟨Nat.le_of_ble_eq_true rfl, Nat.le_of_ble_eq_true rfl⟩) hS (fun q _ h => hFc q h) hFc (fun r_13 u_14 t H1 locs ht hvm hw_15 hB hz1 hk1 hS => ?_)
      obtain ⟨hP1, hK1, hD1⟩ := hB
      rw [ht] at hP1
      have hK1 := va_K.moved hvm.symm hK1
      obtain ⟨hP, hD⟩ := va_join (wr := [(h1, .inr (9, [.int v2_0, .ref r2_1, .ref r2_2, .ref r2_3, .ref r2_4, .int v2_5, .ref r2_6, .ref r2_7, .ref r2_8])), (r2_1, .inl (k3, 4, .inl f3)), (r2_6, .inr (4, [.int v4_0, .int v4_1, .ref r4_2, .ref r4_3, .ref r4_4, .ref r4_5, .ref r4_6, .ref r4_7, .ref r4_8, .ref r4_9])), (r4_2, .inl (k5, 14, .inl f5)), (r2_2, .inl (k8, 4, .inl f8)), (r2_3, .inl (k9, 4, .inl f9)), (r2_4, .inl (k10, 4, .inl f10))]) (w1 := [(h0, .inr (5, [.ref r0_0, .int (u_10.1 0), .int (u_14.1 0), .int (u_14.1 1)])), (r0_0, .inr (10, [.ref r1_0, .ref r1_1, .int v1_2, .int (u_14.1 2), .int (u_14.1 3), .int (u_14.1 4), .int (u_14.1 5), .int (u_14.1 6)])), (r1_1, .inl (k6, 1200, .inl f6)), (r1_0, .inl (k7, 13, .inl f7))]) hP hD [0, 1, 6, 7] [2, 3, 4, 5, 8, 9, 10] rfl rfl (by decide) (by decide) hk1 hFc hP1 hD1
      have hK := hK
      generalize H1 = H at hP hS ⊢
      have hP := hP.sub (ws' := [(h0, .inr (5, [.ref r0_0, .int (u_10.1 0), .int (u_14.1 0), .int (u_14.1 1)])), (r0_0, .inr (10, [.ref r1_0, .ref r1_1, .int v1_2, .int (u_14.1 2), .int (u_14.1 3), .int (u_14.1 4), .int (u_14.1 5), .int (u_14.1 6)])), (h1, .inr (9, [.int v2_0, .ref r2_1, .ref r2_2, .ref r2_3, .ref r2_4, .int v2_5, .ref r2_6, .ref r2_7, .ref r2_8])), (r2_1, .inl (k3, 4, .inl f3)), (r2_6, .inr (4, [.int v4_0, .int v4_1, .ref r4_2, .ref r4_3, .ref r4_4, .ref r4_5, .ref r4_6, .ref r4_7, .ref r4_8, .ref r4_9])), (r4_2, .inl (k5, 14, .inl f5)), (r1_1, .inl (k6, 1200, .inl f6)), (r1_0, .inl (k7, 13, .inl f7)), (r2_2, .inl (k8, 4, .inl f8)), (r2_3, .inl (k9, 4, .inl f9)), (r2_4, .inl (k10, 4, .inl f10))]) [7, 8, 0, 1, 2, 3, 9, 10, 4, 5, 6] rfl
      have hD := hD.sub (ws' := [(h0, .inr (5, [.ref r0_0, .int (u_10.1 0), .int (u_14.1 0), .int (u_14.1 1)])), (r0_0, .inr (10, [.ref r1_0, .ref r1_1, .int v1_2, .int (u_14.1 2), .int (u_14.1 3), .int (u_14.1 4), .int (u_14.1 5), .int (u_14.1 6)])), (h1, .inr (9, [.int v2_0, .ref r2_1, .ref r2_2, .ref r2_3, .ref r2_4, .int v2_5, .ref r2_6, .ref r2_7, .ref r2_8])), (r2_1, .inl (k3, 4, .inl f3)), (r2_6, .inr (4, [.int v4_0, .int v4_1, .ref r4_2, .ref r4_3, .ref r4_4, .ref r4_5, .ref r4_6, .ref r4_7, .ref r4_8, .ref r4_9])), (r4_2, .inl (k5, 14, .inl f5)), (r1_1, .inl (k6, 1200, .inl f6)), (r1_0, .inl (k7, 13, .inl f7)), (r2_2, .inl (k8, 4, .inl f8)), (r2_3, .inl (k9, 4, .inl f9)), (r2_4, .inl (k10, 4, .inl f10))]) [7, 8, 0, 1, 2, 3, 9, 10, 4, 5, 6] (by decide) rfl
      have hP : va_P (dC, dI) vwCl [(h0, .inr (5, [.ref r0_0, .int (u_10.1 0), .int (u_14.1 0), .int (u_14.1 1)])), (r0_0, .inr (10, [.ref r1_0, .ref r1_1, .int v1_2, .int (u_14.1 2), .int (u_14.1 3), .int (u_14.1 4), .int (u_14.1 5), .int (u_14.1 6)])), (h1, .inr (9, [.int v2_0, .ref r2_1, .ref r2_2, .ref r2_3, .ref r2_4, .int v2_5, .ref r2_6, .ref r2_7, .ref r2_8])), (r2_1, .inl (k3, 4, .inl f3)), (r2_6, .inr (4, [.int v4_0, .int v4_1, .ref r4_2, .ref r4_3, .ref r4_4, .ref r4_5, .ref r4_6, .ref r4_7, .ref r4_8, .ref r4_9])), (r4_2, .inl (k5, 14, .inl f5)), (r1_1, .inl (k6, 1200, .inl f6)), (r1_0, .inl (k7, 13, .inl f7)), (r2_2, .inl (k8, 4, .inl f8)), (r2_3, .inl (k9, 4, .inl f9)), (r2_4, .inl (k10, 4, .inl f10))] H := hP
      have hD : va_D A [(h0, .inr (5, [.ref r0_0, .int (u_10.1 0), .int (u_14.1 0), .int (u_14.1 1)])), (r0_0, .inr (10, [.ref r1_0, .ref r1_1, .int v1_2, .int (u_14.1 2), .int (u_14.1 3), .int (u_14.1 4), .int (u_14.1 5), .int (u_14.1 6)])), (h1, .inr (9, [.int v2_0, .ref r2_1, .ref r2_2, .ref r2_3, .ref r2_4, .int v2_5, .ref r2_6, .ref r2_7, .ref r2_8])), (r2_1, .inl (k3, 4, .inl f3)), (r2_6, .inr (4, [.int v4_0, .int v4_1, .ref r4_2, .ref r4_3, .ref r4_4, .ref r4_5, .ref r4_6, .ref r4_7, .ref r4_8, .ref r4_9])), (r4_2, .inl (k5, 14, .inl f5)), (r1_1, .inl (k6, 1200, .inl f6)), (r1_0, .inl (k7, 13, .inl f7)), (r2_2, .inl (k8, 4, .inl f8)), (r2_3, .inl (k9, 4, .inl f9)), (r2_4, .inl (k10, 4, .inl f10))] := hD
      obtain ⟨hr_13, hmr_13_1, hmr_13_2, hmr_13_3, hmr_13_4, -⟩ := hw_15
      refine lv_if_eq (tgt := 60) hx hb dX5_readFormat_46 (by decide) (fun c_16 => ?_) (fun c_16 => ?_)
      · have oc_16 := zk_eq rfl (by decide +kernel : (0 : Int32).toInt = 0) c_16
        refine lv_iconst (v := 0) hx hb dX5_readFormat_60 (by decide +kernel) ?_
        have hP9 := hP.sub (ws' := [(h0, .inr (5, [.ref r0_0, .int (u_10.1 0), .int (u_14.1 0), .int (u_14.1 1)])), (r0_0, .inr (10, [.ref r1_0, .ref r1_1, .int v1_2, .int (u_14.1 2), .int (u_14.1 3), .int (u_14.1 4), .int (u_14.1 5), .int (u_14.1 6)])), (h1, .inr (9, [.int v2_0, .ref r2_1, .ref r2_2, .ref r2_3, .ref r2_4, .int v2_5, .ref r2_6, .ref r2_7, .ref r2_8])), (r2_1, .inl (k3, 4, .inl f3)), (r2_6, .inr (4, [.int v4_0, .int v4_1, .ref r4_2, .ref r4_3, .ref r4_4, .ref r4_5, .ref r4_6, .ref r4_7, .ref r4_8, .ref r4_9])), (r4_2, .inl (k5, 14, .inl f5)), (r1_1, .inl (k6, 1200, .inl f6)), (r1_0, .inl (k7, 13, .inl f7)), (r2_2, .inl (k8, 4, .inl f8)), (r2_3, .inl (k9, 4, .inl f9)), (r2_4, .inl (k10, 4, .inl f10))]) [0, 1, 2, 3, 4, 5, 6, 7, 8, 9, 10] rfl
        have hD9 := hD.sub (ws' := [(h0, .inr (5, [.ref r0_0, .int (u_10.1 0), .int (u_14.1 0), .int (u_14.1 1)])), (r0_0, .inr (10, [.ref r1_0, .ref r1_1, .int v1_2, .int (u_14.1 2), .int (u_14.1 3), .int (u_14.1 4), .int (u_14.1 5), .int (u_14.1 6)])), (h1, .inr (9, [.int v2_0, .ref r2_1, .ref r2_2, .ref r2_3, .ref r2_4, .int v2_5, .ref r2_6, .ref r2_7, .ref r2_8])), (r2_1, .inl (k3, 4, .inl f3)), (r2_6, .inr (4, [.int v4_0, .int v4_1, .ref r4_2, .ref r4_3, .ref r4_4, .ref r4_5, .ref r4_6, .ref r4_7, .ref r4_8, .ref r4_9])), (r4_2, .inl (k5, 14, .inl f5)), (r1_1, .inl (k6, 1200, .inl f6)), (r1_0, .inl (k7, 13, .inl f7)), (r2_2, .inl (k8, 4, .inl f8)), (r2_3, .inl (k9, 4, .inl f9)), (r2_4, .inl (k10, 4, .inl f10))]) [0, 1, 2, 3, 4, 5, 6, 7, 8, 9, 10] (by decide) rfl
        have hK9 := hK.sub (tys' := [(k3, .int), (k5, .int), (k6, .byte), (k7, .int), (k8, .int), (k9, .int), (k10, .int)]) [0, 1, 2, 3, 4, 5, 6] rfl
        rw [← hQ]
        exact W.zret (v := 0) hx hb hr rfl (fun t ht hW => ⟨⟨0, ((fun k => ([(u_10.1 0), (u_14.1 0), (u_14.1 1), (u_14.1 2), (u_14.1 3), (u_14.1 4), (u_14.1 5), (u_14.1 6), v2_0] : List Int32).getD k 0), (fun k => ([f3, f8, f9, f10] : List (Nat → Int32)).getD k (fun _ => 0)), (fun k => ([] : List (Nat → Int64)).getD k (fun _ => 0))), rfl, ⟨(show (0 : Int) ≤ (0 : Int32).toInt ∧ (0 : Int32).toInt ≤ 1 by decide +kernel), (show (0 : Int) ≤ ((u_14.1 2) : Int32).toInt ∧ ((u_14.1 2) : Int32).toInt ≤ 1200 by omega), (show (0 : Int) ≤ ((u_14.1 3) : Int32).toInt ∧ ((u_14.1 3) : Int32).toInt ≤ 5 by omega), (show (0 : Int) ≤ ((u_14.1 4) : Int32).toInt ∧ ((u_14.1 4) : Int32).toInt ≤ 1200 by omega), (show (-1 : Int) ≤ ((u_14.1 6) : Int32).toInt ∧ ((u_14.1 6) : Int32).toInt ≤ 12 by omega), (show (0 : Int) ≤ (v2_0 : Int32).toInt ∧ (v2_0 : Int32).toInt ≤ 4 by omega), trivial⟩, by rw [ht]; exact hP9, va_K.moved hW.alike hK9, hD9⟩, hS.F ht⟩) hS.2.2 dX5_readFormat_61
      have oc_16 := zk_ne rfl (by decide +kernel : (0 : Int32).toInt = 0) c_16
      refine lv_aload_n hx hb dX5_readFormat_49 rfl (lv_at hl 2 rfl) ?_
      refine lv_iconst (v := 0) hx hb dX5_readFormat_50 (by decide +kernel) ?_
      refine lv_iconst (v := 1) hx hb dX5_readFormat_51 (by decide +kernel) ?_
      refine lv_ldc (v := 1000000000) hx hb hown (hts (.constant RX5 113 (1000000000)) zw_X5_readFormat_325) dX5_readFormat_52 ?_
      have hPc := hP.sub (ws' := [(h0, .inr (5, [.ref r0_0, .int (u_10.1 0), .int (u_14.1 0), .int (u_14.1 1)])), (r0_0, .inr (10, [.ref r1_0, .ref r1_1, .int v1_2, .int (u_14.1 2), .int (u_14.1 3), .int (u_14.1 4), .int (u_14.1 5), .int (u_14.1 6)])), (r1_1, .inl (k6, 1200, .inl f6)), (r1_0, .inl (k7, 13, .inl f7))]) [0, 1, 6, 7] rfl
      have hDc := hD.sub (ws' := [(h0, .inr (5, [.ref r0_0, .int (u_10.1 0), .int (u_14.1 0), .int (u_14.1 1)])), (r0_0, .inr (10, [.ref r1_0, .ref r1_1, .int v1_2, .int (u_14.1 2), .int (u_14.1 3), .int (u_14.1 4), .int (u_14.1 5), .int (u_14.1 6)])), (r1_1, .inl (k6, 1200, .inl f6)), (r1_0, .inl (k7, 13, .inl f7))]) [0, 1, 6, 7] (by decide) rfl
      have hKc := hK.sub (tys' := [(k6, .byte), (k7, .int)]) [2, 3] rfl
      have hFc := va_free (wc := [(h0, .inr (5, [.ref r0_0, .int (u_10.1 0), .int (u_14.1 0), .int (u_14.1 1)])), (r0_0, .inr (10, [.ref r1_0, .ref r1_1, .int v1_2, .int (u_14.1 2), .int (u_14.1 3), .int (u_14.1 4), .int (u_14.1 5), .int (u_14.1 6)])), (r1_1, .inl (k6, 1200, .inl f6)), (r1_0, .inl (k7, 13, .inl f7))]) hD hS hA [0, 1, 6, 7] rfl
      refine va_calli (va_runV (As := [.int 0, .int 1, .int 1000000000]) (rest := []) ⟨hx, hb, hml, hown, hts⟩ (zs_X5_readValue l dC dI h0 0 1 1000000000 r0_0 (u_10.1 0) (u_14.1 0) (u_14.1 1) r1_0 r1_1 v1_2 (u_14.1 2) (u_14.1 3) (u_14.1 4) (u_14.1 5) (u_14.1 6) k6 f6 k7 f7 (by decide +kernel) (by omega) (by omega) (by omega) (by omega) (by omega) H.size) (cwV 3 hts gX5_readFormat_X5_readValue rfl rfl rfl (by decide +kernel) ⟨Nat.le_of_ble_eq_true rfl, Nat.le_of_ble_eq_true rfl⟩) ⟨fun a U g mk q => by obtain ⟨q0, q1, qP, qK, qD⟩ := q; exact ⟨q0, q1, qP, va_K.moved (u := U) (U := U.calling g mk a) (Vm.Alike.refl U.vm) qK, qD⟩, va_recv hKc hPc (ci := 5) (q0 := 0) rfl rfl, fun U hU hW => ⟨rfl, by rw [hU], by rw [hU]; exact hPc, va_K.moved hW.alike hKc, hDc.weaken (fun _ _ _ _ => trivial)⟩⟩ rfl rfl hl.1 rfl (lv_room (Nat.le_of_ble_eq_true rfl)) dX5_readFormat_54 ⟨Nat.le_of_ble_eq_true rfl, Nat.le_of_ble_eq_true rfl⟩) hS (fun q _ h => hFc q h) hFc (fun r_17 u_18 t H1 locs ht hvm hw_19 hB hz1 hk1 hS => ?_)
      obtain ⟨hP1, hK1, hD1⟩ := hB
      rw [ht] at hP1
      have hK1 := va_K.moved hvm.symm hK1
      obtain ⟨hP, hD⟩ := va_join (wr := [(h1, .inr (9, [.int v2_0, .ref r2_1, .ref r2_2, .ref r2_3, .ref r2_4, .int v2_5, .ref r2_6, .ref r2_7, .ref r2_8])), (r2_1, .inl (k3, 4, .inl f3)), (r2_6, .inr (4, [.int v4_0, .int v4_1, .ref r4_2, .ref r4_3, .ref r4_4, .ref r4_5, .ref r4_6, .ref r4_7, .ref r4_8, .ref r4_9])), (r4_2, .inl (k5, 14, .inl f5)), (r2_2, .inl (k8, 4, .inl f8)), (r2_3, .inl (k9, 4, .inl f9)), (r2_4, .inl (k10, 4, .inl f10))]) (w1 := [(h0, .inr (5, [.ref r0_0, .int (u_18.1 0), .int (u_18.1 1), .int (u_18.1 2)])), (r0_0, .inr (10, [.ref r1_0, .ref r1_1, .int v1_2, .int (u_18.1 3), .int (u_18.1 4), .int (u_18.1 5), .int (u_18.1 6), .int (u_18.1 7)])), (r1_1, .inl (k6, 1200, .inl f6)), (r1_0, .inl (k7, 13, .inl f7))]) hP hD [0, 1, 6, 7] [2, 3, 4, 5, 8, 9, 10] rfl rfl (by decide) (by decide) hk1 hFc hP1 hD1
      have hK := hK
      generalize H1 = H at hP hS ⊢
      have hP := hP.sub (ws' := [(h0, .inr (5, [.ref r0_0, .int (u_18.1 0), .int (u_18.1 1), .int (u_18.1 2)])), (r0_0, .inr (10, [.ref r1_0, .ref r1_1, .int v1_2, .int (u_18.1 3), .int (u_18.1 4), .int (u_18.1 5), .int (u_18.1 6), .int (u_18.1 7)])), (h1, .inr (9, [.int v2_0, .ref r2_1, .ref r2_2, .ref r2_3, .ref r2_4, .int v2_5, .ref r2_6, .ref r2_7, .ref r2_8])), (r2_1, .inl (k3, 4, .inl f3)), (r2_6, .inr (4, [.int v4_0, .int v4_1, .ref r4_2, .ref r4_3, .ref r4_4, .ref r4_5, .ref r4_6, .ref r4_7, .ref r4_8, .ref r4_9])), (r4_2, .inl (k5, 14, .inl f5)), (r1_1, .inl (k6, 1200, .inl f6)), (r1_0, .inl (k7, 13, .inl f7)), (r2_2, .inl (k8, 4, .inl f8)), (r2_3, .inl (k9, 4, .inl f9)), (r2_4, .inl (k10, 4, .inl f10))]) [7, 8, 0, 1, 2, 3, 9, 10, 4, 5, 6] rfl
      have hD := hD.sub (ws' := [(h0, .inr (5, [.ref r0_0, .int (u_18.1 0), .int (u_18.1 1), .int (u_18.1 2)])), (r0_0, .inr (10, [.ref r1_0, .ref r1_1, .int v1_2, .int (u_18.1 3), .int (u_18.1 4), .int (u_18.1 5), .int (u_18.1 6), .int (u_18.1 7)])), (h1, .inr (9, [.int v2_0, .ref r2_1, .ref r2_2, .ref r2_3, .ref r2_4, .int v2_5, .ref r2_6, .ref r2_7, .ref r2_8])), (r2_1, .inl (k3, 4, .inl f3)), (r2_6, .inr (4, [.int v4_0, .int v4_1, .ref r4_2, .ref r4_3, .ref r4_4, .ref r4_5, .ref r4_6, .ref r4_7, .ref r4_8, .ref r4_9])), (r4_2, .inl (k5, 14, .inl f5)), (r1_1, .inl (k6, 1200, .inl f6)), (r1_0, .inl (k7, 13, .inl f7)), (r2_2, .inl (k8, 4, .inl f8)), (r2_3, .inl (k9, 4, .inl f9)), (r2_4, .inl (k10, 4, .inl f10))]) [7, 8, 0, 1, 2, 3, 9, 10, 4, 5, 6] (by decide) rfl
      have hP : va_P (dC, dI) vwCl [(h0, .inr (5, [.ref r0_0, .int (u_18.1 0), .int (u_18.1 1), .int (u_18.1 2)])), (r0_0, .inr (10, [.ref r1_0, .ref r1_1, .int v1_2, .int (u_18.1 3), .int (u_18.1 4), .int (u_18.1 5), .int (u_18.1 6), .int (u_18.1 7)])), (h1, .inr (9, [.int v2_0, .ref r2_1, .ref r2_2, .ref r2_3, .ref r2_4, .int v2_5, .ref r2_6, .ref r2_7, .ref r2_8])), (r2_1, .inl (k3, 4, .inl f3)), (r2_6, .inr (4, [.int v4_0, .int v4_1, .ref r4_2, .ref r4_3, .ref r4_4, .ref r4_5, .ref r4_6, .ref r4_7, .ref r4_8, .ref r4_9])), (r4_2, .inl (k5, 14, .inl f5)), (r1_1, .inl (k6, 1200, .inl f6)), (r1_0, .inl (k7, 13, .inl f7)), (r2_2, .inl (k8, 4, .inl f8)), (r2_3, .inl (k9, 4, .inl f9)), (r2_4, .inl (k10, 4, .inl f10))] H := hP
      have hD : va_D A [(h0, .inr (5, [.ref r0_0, .int (u_18.1 0), .int (u_18.1 1), .int (u_18.1 2)])), (r0_0, .inr (10, [.ref r1_0, .ref r1_1, .int v1_2, .int (u_18.1 3), .int (u_18.1 4), .int (u_18.1 5), .int (u_18.1 6), .int (u_18.1 7)])), (h1, .inr (9, [.int v2_0, .ref r2_1, .ref r2_2, .ref r2_3, .ref r2_4, .int v2_5, .ref r2_6, .ref r2_7, .ref r2_8])), (r2_1, .inl (k3, 4, .inl f3)), (r2_6, .inr (4, [.int v4_0, .int v4_1, .ref r4_2, .ref r4_3, .ref r4_4, .ref r4_5, .ref r4_6, .ref r4_7, .ref r4_8, .ref r4_9])), (r4_2, .inl (k5, 14, .inl f5)), (r1_1, .inl (k6, 1200, .inl f6)), (r1_0, .inl (k7, 13, .inl f7)), (r2_2, .inl (k8, 4, .inl f8)), (r2_3, .inl (k9, 4, .inl f9)), (r2_4, .inl (k10, 4, .inl f10))] := hD
      obtain ⟨hr_17, hmr_17_1, hmr_17_2, hmr_17_3, hmr_17_4, -⟩ := hw_19
      refine lv_if_ne (tgt := 62) hx hb dX5_readFormat_57 (by decide) (fun c_20 => ?_) (fun c_20 => ?_)
      · have oc_20 := zk_ne rfl (by decide +kernel : (0 : Int32).toInt = 0) c_20
        refine lv_aload_n hx hb dX5_readFormat_62 rfl (lv_at hl 2 rfl) ?_
        refine va_get (D := (dC, dI)) (ci := 5) (v := .int (u_18.1 0)) (C := RX5) (T := TX5) (N := 4) hx hb hts zn_X5_readFormat_X5 hown hK hP 0 rfl rfl 1 (by decide) (hts (.fieldLink RX5 102 "ShortEnough$Parser" "got" "I") zw_X5_readFormat_323) (fun _ h9 => h9) rfl dX5_readFormat_63 ?_
        refine lv_istore (lv' := [(4, .int (u_18.1 0)), (3, .int (u_10.1 0)), (2, .int (u_2.1 0)), (0, .ref h0), (1, .ref h1)]) hx hb dX5_readFormat_66 hl (by decide) rfl (fun ls hl => ?_)
        refine lv_aload_n hx hb dX5_readFormat_68 rfl (lv_at hl 3 rfl) ?_
        refine lv_iconst (v := 3) hx hb dX5_readFormat_69 (by decide +kernel) ?_
        have hPc := hP.sub (ws' := [(h0, .inr (5, [.ref r0_0, .int (u_18.1 0), .int (u_18.1 1), .int (u_18.1 2)])), (r0_0, .inr (10, [.ref r1_0, .ref r1_1, .int v1_2, .int (u_18.1 3), .int (u_18.1 4), .int (u_18.1 5), .int (u_18.1 6), .int (u_18.1 7)])), (r1_1, .inl (k6, 1200, .inl f6)), (r1_0, .inl (k7, 13, .inl f7))]) [0, 1, 6, 7] rfl
        have hDc := hD.sub (ws' := [(h0, .inr (5, [.ref r0_0, .int (u_18.1 0), .int (u_18.1 1), .int (u_18.1 2)])), (r0_0, .inr (10, [.ref r1_0, .ref r1_1, .int v1_2, .int (u_18.1 3), .int (u_18.1 4), .int (u_18.1 5), .int (u_18.1 6), .int (u_18.1 7)])), (r1_1, .inl (k6, 1200, .inl f6)), (r1_0, .inl (k7, 13, .inl f7))]) [0, 1, 6, 7] (by decide) rfl
        have hKc := hK.sub (tys' := [(k6, .byte), (k7, .int)]) [2, 3] rfl
        have hFc := va_free (wc := [(h0, .inr (5, [.ref r0_0, .int (u_18.1 0), .int (u_18.1 1), .int (u_18.1 2)])), (r0_0, .inr (10, [.ref r1_0, .ref r1_1, .int v1_2, .int (u_18.1 3), .int (u_18.1 4), .int (u_18.1 5), .int (u_18.1 6), .int (u_18.1 7)])), (r1_1, .inl (k6, 1200, .inl f6)), (r1_0, .inl (k7, 13, .inl f7))]) hD hS hA [0, 1, 6, 7] rfl
        refine va_calli (va_runV (As := [.int 3]) (rest := []) ⟨hx, hb, hml, hown, hts⟩ (zs_X5_readOwn l dC dI h0 3 r0_0 (u_18.1 0) (u_18.1 1) (u_18.1 2) r1_0 r1_1 v1_2 (u_18.1 3) (u_18.1 4) (u_18.1 5) (u_18.1 6) (u_18.1 7) k6 f6 k7 f7 (by omega) (by omega) (by omega) (by omega) (by omega) H.size) (cwV 1 hts gX5_readFormat_X5_readOwn rfl rfl rfl (by decide +kernel) ⟨Nat.le_of_ble_eq_true rfl, Nat.le_of_ble_eq_true rfl⟩) ⟨fun a U g mk q => by obtain ⟨q0, q1, qP, qK, qD⟩ := q; exact ⟨q0, q1, qP, va_K.moved (u := U) (U := U.calling g mk a) (Vm.Alike.refl U.vm) qK, qD⟩, va_recv hKc hPc (ci := 5) (q0 := 0) rfl rfl, fun U hU hW => ⟨rfl, by rw [hU], by rw [hU]; exact hPc, va_K.moved hW.alike hKc, hDc.weaken (fun _ _ _ _ => trivial)⟩⟩ rfl rfl hl.1 rfl (lv_room (Nat.le_of_ble_eq_true rfl)) dX5_readFormat_70 ⟨Nat.le_of_ble_eq_true rfl, Nat.le_of_ble_eq_true rfl⟩) hS (fun q _ h => hFc q h) hFc (fun r_21 u_22 t H1 locs ht hvm hw_23 hB hz1 hk1 hS => ?_)
        obtain ⟨hP1, hK1, hD1⟩ := hB
        rw [ht] at hP1
        have hK1 := va_K.moved hvm.symm hK1
        obtain ⟨hP, hD⟩ := va_join (wr := [(h1, .inr (9, [.int v2_0, .ref r2_1, .ref r2_2, .ref r2_3, .ref r2_4, .int v2_5, .ref r2_6, .ref r2_7, .ref r2_8])), (r2_1, .inl (k3, 4, .inl f3)), (r2_6, .inr (4, [.int v4_0, .int v4_1, .ref r4_2, .ref r4_3, .ref r4_4, .ref r4_5, .ref r4_6, .ref r4_7, .ref r4_8, .ref r4_9])), (r4_2, .inl (k5, 14, .inl f5)), (r2_2, .inl (k8, 4, .inl f8)), (r2_3, .inl (k9, 4, .inl f9)), (r2_4, .inl (k10, 4, .inl f10))]) (w1 := [(h0, .inr (5, [.ref r0_0, .int (u_18.1 0), .int (u_22.1 0), .int (u_22.1 1)])), (r0_0, .inr (10, [.ref r1_0, .ref r1_1, .int v1_2, .int (u_22.1 2), .int (u_22.1 3), .int (u_22.1 4), .int (u_22.1 5), .int (u_22.1 6)])), (r1_1, .inl (k6, 1200, .inl f6)), (r1_0, .inl (k7, 13, .inl f7))]) hP hD [0, 1, 6, 7] [2, 3, 4, 5, 8, 9, 10] rfl rfl (by decide) (by decide) hk1 hFc hP1 hD1
        have hK := hK
        generalize H1 = H at hP hS ⊢
        have hP := hP.sub (ws' := [(h0, .inr (5, [.ref r0_0, .int (u_18.1 0), .int (u_22.1 0), .int (u_22.1 1)])), (r0_0, .inr (10, [.ref r1_0, .ref r1_1, .int v1_2, .int (u_22.1 2), .int (u_22.1 3), .int (u_22.1 4), .int (u_22.1 5), .int (u_22.1 6)])), (h1, .inr (9, [.int v2_0, .ref r2_1, .ref r2_2, .ref r2_3, .ref r2_4, .int v2_5, .ref r2_6, .ref r2_7, .ref r2_8])), (r2_1, .inl (k3, 4, .inl f3)), (r2_6, .inr (4, [.int v4_0, .int v4_1, .ref r4_2, .ref r4_3, .ref r4_4, .ref r4_5, .ref r4_6, .ref r4_7, .ref r4_8, .ref r4_9])), (r4_2, .inl (k5, 14, .inl f5)), (r1_1, .inl (k6, 1200, .inl f6)), (r1_0, .inl (k7, 13, .inl f7)), (r2_2, .inl (k8, 4, .inl f8)), (r2_3, .inl (k9, 4, .inl f9)), (r2_4, .inl (k10, 4, .inl f10))]) [7, 8, 0, 1, 2, 3, 9, 10, 4, 5, 6] rfl
        have hD := hD.sub (ws' := [(h0, .inr (5, [.ref r0_0, .int (u_18.1 0), .int (u_22.1 0), .int (u_22.1 1)])), (r0_0, .inr (10, [.ref r1_0, .ref r1_1, .int v1_2, .int (u_22.1 2), .int (u_22.1 3), .int (u_22.1 4), .int (u_22.1 5), .int (u_22.1 6)])), (h1, .inr (9, [.int v2_0, .ref r2_1, .ref r2_2, .ref r2_3, .ref r2_4, .int v2_5, .ref r2_6, .ref r2_7, .ref r2_8])), (r2_1, .inl (k3, 4, .inl f3)), (r2_6, .inr (4, [.int v4_0, .int v4_1, .ref r4_2, .ref r4_3, .ref r4_4, .ref r4_5, .ref r4_6, .ref r4_7, .ref r4_8, .ref r4_9])), (r4_2, .inl (k5, 14, .inl f5)), (r1_1, .inl (k6, 1200, .inl f6)), (r1_0, .inl (k7, 13, .inl f7)), (r2_2, .inl (k8, 4, .inl f8)), (r2_3, .inl (k9, 4, .inl f9)), (r2_4, .inl (k10, 4, .inl f10))]) [7, 8, 0, 1, 2, 3, 9, 10, 4, 5, 6] (by decide) rfl
        have hP : va_P (dC, dI) vwCl [(h0, .inr (5, [.ref r0_0, .int (u_18.1 0), .int (u_22.1 0), .int (u_22.1 1)])), (r0_0, .inr (10, [.ref r1_0, .ref r1_1, .int v1_2, .int (u_22.1 2), .int (u_22.1 3), .int (u_22.1 4), .int (u_22.1 5), .int (u_22.1 6)])), (h1, .inr (9, [.int v2_0, .ref r2_1, .ref r2_2, .ref r2_3, .ref r2_4, .int v2_5, .ref r2_6, .ref r2_7, .ref r2_8])), (r2_1, .inl (k3, 4, .inl f3)), (r2_6, .inr (4, [.int v4_0, .int v4_1, .ref r4_2, .ref r4_3, .ref r4_4, .ref r4_5, .ref r4_6, .ref r4_7, .ref r4_8, .ref r4_9])), (r4_2, .inl (k5, 14, .inl f5)), (r1_1, .inl (k6, 1200, .inl f6)), (r1_0, .inl (k7, 13, .inl f7)), (r2_2, .inl (k8, 4, .inl f8)), (r2_3, .inl (k9, 4, .inl f9)), (r2_4, .inl (k10, 4, .inl f10))] H := hP
        have hD : va_D A [(h0, .inr (5, [.ref r0_0, .int (u_18.1 0), .int (u_22.1 0), .int (u_22.1 1)])), (r0_0, .inr (10, [.ref r1_0, .ref r1_1, .int v1_2, .int (u_22.1 2), .int (u_22.1 3), .int (u_22.1 4), .int (u_22.1 5), .int (u_22.1 6)])), (h1, .inr (9, [.int v2_0, .ref r2_1, .ref r2_2, .ref r2_3, .ref r2_4, .int v2_5, .ref r2_6, .ref r2_7, .ref r2_8])), (r2_1, .inl (k3, 4, .inl f3)), (r2_6, .inr (4, [.int v4_0, .int v4_1, .ref r4_2, .ref r4_3, .ref r4_4, .ref r4_5, .ref r4_6, .ref r4_7, .ref r4_8, .ref r4_9])), (r4_2, .inl (k5, 14, .inl f5)), (r1_1, .inl (k6, 1200, .inl f6)), (r1_0, .inl (k7, 13, .inl f7)), (r2_2, .inl (k8, 4, .inl f8)), (r2_3, .inl (k9, 4, .inl f9)), (r2_4, .inl (k10, 4, .inl f10))] := hD
        obtain ⟨hr_21, hmr_21_1, hmr_21_2, hmr_21_3, hmr_21_4, -⟩ := hw_23
        refine lv_if_eq (tgt := 88) hx hb dX5_readFormat_73 (by decide) (fun c_24 => ?_) (fun c_24 => ?_)
        · have oc_24 := zk_eq rfl (by decide +kernel : (0 : Int32).toInt = 0) c_24
          refine lv_iconst (v := 0) hx hb dX5_readFormat_88 (by decide +kernel) ?_
          have hP9 := hP.sub (ws' := [(h0, .inr (5, [.ref r0_0, .int (u_18.1 0), .int (u_22.1 0), .int (u_22.1 1)])), (r0_0, .inr (10, [.ref r1_0, .ref r1_1, .int v1_2, .int (u_22.1 2), .int (u_22.1 3), .int (u_22.1 4), .int (u_22.1 5), .int (u_22.1 6)])), (h1, .inr (9, [.int v2_0, .ref r2_1, .ref r2_2, .ref r2_3, .ref r2_4, .int v2_5, .ref r2_6, .ref r2_7, .ref r2_8])), (r2_1, .inl (k3, 4, .inl f3)), (r2_6, .inr (4, [.int v4_0, .int v4_1, .ref r4_2, .ref r4_3, .ref r4_4, .ref r4_5, .ref r4_6, .ref r4_7, .ref r4_8, .ref r4_9])), (r4_2, .inl (k5, 14, .inl f5)), (r1_1, .inl (k6, 1200, .inl f6)), (r1_0, .inl (k7, 13, .inl f7)), (r2_2, .inl (k8, 4, .inl f8)), (r2_3, .inl (k9, 4, .inl f9)), (r2_4, .inl (k10, 4, .inl f10))]) [0, 1, 2, 3, 4, 5, 6, 7, 8, 9, 10] rfl
          have hD9 := hD.sub (ws' := [(h0, .inr (5, [.ref r0_0, .int (u_18.1 0), .int (u_22.1 0), .int (u_22.1 1)])), (r0_0, .inr (10, [.ref r1_0, .ref r1_1, .int v1_2, .int (u_22.1 2), .int (u_22.1 3), .int (u_22.1 4), .int (u_22.1 5), .int (u_22.1 6)])), (h1, .inr (9, [.int v2_0, .ref r2_1, .ref r2_2, .ref r2_3, .ref r2_4, .int v2_5, .ref r2_6, .ref r2_7, .ref r2_8])), (r2_1, .inl (k3, 4, .inl f3)), (r2_6, .inr (4, [.int v4_0, .int v4_1, .ref r4_2, .ref r4_3, .ref r4_4, .ref r4_5, .ref r4_6, .ref r4_7, .ref r4_8, .ref r4_9])), (r4_2, .inl (k5, 14, .inl f5)), (r1_1, .inl (k6, 1200, .inl f6)), (r1_0, .inl (k7, 13, .inl f7)), (r2_2, .inl (k8, 4, .inl f8)), (r2_3, .inl (k9, 4, .inl f9)), (r2_4, .inl (k10, 4, .inl f10))]) [0, 1, 2, 3, 4, 5, 6, 7, 8, 9, 10] (by decide) rfl
          have hK9 := hK.sub (tys' := [(k3, .int), (k5, .int), (k6, .byte), (k7, .int), (k8, .int), (k9, .int), (k10, .int)]) [0, 1, 2, 3, 4, 5, 6] rfl
          rw [← hQ]
          exact W.zret (v := 0) hx hb hr rfl (fun t ht hW => ⟨⟨0, ((fun k => ([(u_18.1 0), (u_22.1 0), (u_22.1 1), (u_22.1 2), (u_22.1 3), (u_22.1 4), (u_22.1 5), (u_22.1 6), v2_0] : List Int32).getD k 0), (fun k => ([f3, f8, f9, f10] : List (Nat → Int32)).getD k (fun _ => 0)), (fun k => ([] : List (Nat → Int64)).getD k (fun _ => 0))), rfl, ⟨(show (0 : Int) ≤ (0 : Int32).toInt ∧ (0 : Int32).toInt ≤ 1 by decide +kernel), (show (0 : Int) ≤ ((u_22.1 2) : Int32).toInt ∧ ((u_22.1 2) : Int32).toInt ≤ 1200 by omega), (show (0 : Int) ≤ ((u_22.1 3) : Int32).toInt ∧ ((u_22.1 3) : Int32).toInt ≤ 5 by omega), (show (0 : Int) ≤ ((u_22.1 4) : Int32).toInt ∧ ((u_22.1 4) : Int32).toInt ≤ 1200 by omega), (show (-1 : Int) ≤ ((u_22.1 6) : Int32).toInt ∧ ((u_22.1 6) : Int32).toInt ≤ 12 by omega), (show (0 : Int) ≤ (v2_0 : Int32).toInt ∧ (v2_0 : Int32).toInt ≤ 4 by omega), trivial⟩, by rw [ht]; exact hP9, va_K.moved hW.alike hK9, hD9⟩, hS.F ht⟩) hS.2.2 dX5_readFormat_89
        have oc_24 := zk_ne rfl (by decide +kernel : (0 : Int32).toInt = 0) c_24
        refine lv_aload_n hx hb dX5_readFormat_76 rfl (lv_at hl 3 rfl) ?_
        refine lv_iconst (v := 0) hx hb dX5_readFormat_77 (by decide +kernel) ?_
        refine lv_iconst (v := 0) hx hb dX5_readFormat_78 (by decide +kernel) ?_
        refine lv_sipush (v := 999) hx hb dX5_readFormat_79 (by decide +kernel) ?_
        have hPc := hP.sub (ws' := [(h0, .inr (5, [.ref r0_0, .int (u_18.1 0), .int (u_22.1 0), .int (u_22.1 1)])), (r0_0, .inr (10, [.ref r1_0, .ref r1_1, .int v1_2, .int (u_22.1 2), .int (u_22.1 3), .int (u_22.1 4), .int (u_22.1 5), .int (u_22.1 6)])), (r1_1, .inl (k6, 1200, .inl f6)), (r1_0, .inl (k7, 13, .inl f7))]) [0, 1, 6, 7] rfl
        have hDc := hD.sub (ws' := [(h0, .inr (5, [.ref r0_0, .int (u_18.1 0), .int (u_22.1 0), .int (u_22.1 1)])), (r0_0, .inr (10, [.ref r1_0, .ref r1_1, .int v1_2, .int (u_22.1 2), .int (u_22.1 3), .int (u_22.1 4), .int (u_22.1 5), .int (u_22.1 6)])), (r1_1, .inl (k6, 1200, .inl f6)), (r1_0, .inl (k7, 13, .inl f7))]) [0, 1, 6, 7] (by decide) rfl
        have hKc := hK.sub (tys' := [(k6, .byte), (k7, .int)]) [2, 3] rfl
        have hFc := va_free (wc := [(h0, .inr (5, [.ref r0_0, .int (u_18.1 0), .int (u_22.1 0), .int (u_22.1 1)])), (r0_0, .inr (10, [.ref r1_0, .ref r1_1, .int v1_2, .int (u_22.1 2), .int (u_22.1 3), .int (u_22.1 4), .int (u_22.1 5), .int (u_22.1 6)])), (r1_1, .inl (k6, 1200, .inl f6)), (r1_0, .inl (k7, 13, .inl f7))]) hD hS hA [0, 1, 6, 7] rfl
        refine va_calli (va_runV (As := [.int 0, .int 0, .int 999]) (rest := []) ⟨hx, hb, hml, hown, hts⟩ (zs_X5_readValue l dC dI h0 0 0 999 r0_0 (u_18.1 0) (u_22.1 0) (u_22.1 1) r1_0 r1_1 v1_2 (u_22.1 2) (u_22.1 3) (u_22.1 4) (u_22.1 5) (u_22.1 6) k6 f6 k7 f7 (by decide +kernel) (by omega) (by omega) (by omega) (by omega) (by omega) H.size) (cwV 3 hts gX5_readFormat_X5_readValue rfl rfl rfl (by decide +kernel) ⟨Nat.le_of_ble_eq_true rfl, Nat.le_of_ble_eq_true rfl⟩) ⟨fun a U g mk q => by obtain ⟨q0, q1, qP, qK, qD⟩ := q; exact ⟨q0, q1, qP, va_K.moved (u := U) (U := U.calling g mk a) (Vm.Alike.refl U.vm) qK, qD⟩, va_recv hKc hPc (ci := 5) (q0 := 0) rfl rfl, fun U hU hW => ⟨rfl, by rw [hU], by rw [hU]; exact hPc, va_K.moved hW.alike hKc, hDc.weaken (fun _ _ _ _ => trivial)⟩⟩ rfl rfl hl.1 rfl (lv_room (Nat.le_of_ble_eq_true rfl)) dX5_readFormat_82 ⟨Nat.le_of_ble_eq_true rfl, Nat.le_of_ble_eq_true rfl⟩) hS (fun q _ h => hFc q h) hFc (fun r_25 u_26 t H1 locs ht hvm hw_27 hB hz1 hk1 hS => ?_)
        obtain ⟨hP1, hK1, hD1⟩ := hB
        rw [ht] at hP1
        have hK1 := va_K.moved hvm.symm hK1
        obtain ⟨hP, hD⟩ := va_join (wr := [(h1, .inr (9, [.int v2_0, .ref r2_1, .ref r2_2, .ref r2_3, .ref r2_4, .int v2_5, .ref r2_6, .ref r2_7, .ref r2_8])), (r2_1, .inl (k3, 4, .inl f3)), (r2_6, .inr (4, [.int v4_0, .int v4_1, .ref r4_2, .ref r4_3, .ref r4_4, .ref r4_5, .ref r4_6, .ref r4_7, .ref r4_8, .ref r4_9])), (r4_2, .inl (k5, 14, .inl f5)), (r2_2, .inl (k8, 4, .inl f8)), (r2_3, .inl (k9, 4, .inl f9)), (r2_4, .inl (k10, 4, .inl f10))]) (w1 := [(h0, .inr (5, [.ref r0_0, .int (u_26.1 0), .int (u_26.1 1), .int (u_26.1 2)])), (r0_0, .inr (10, [.ref r1_0, .ref r1_1, .int v1_2, .int (u_26.1 3), .int (u_26.1 4), .int (u_26.1 5), .int (u_26.1 6), .int (u_26.1 7)])), (r1_1, .inl (k6, 1200, .inl f6)), (r1_0, .inl (k7, 13, .inl f7))]) hP hD [0, 1, 6, 7] [2, 3, 4, 5, 8, 9, 10] rfl rfl (by decide) (by decide) hk1 hFc hP1 hD1
        have hK := hK
        generalize H1 = H at hP hS ⊢
        have hP := hP.sub (ws' := [(h0, .inr (5, [.ref r0_0, .int (u_26.1 0), .int (u_26.1 1), .int (u_26.1 2)])), (r0_0, .inr (10, [.ref r1_0, .ref r1_1, .int v1_2, .int (u_26.1 3), .int (u_26.1 4), .int (u_26.1 5), .int (u_26.1 6), .int (u_26.1 7)])), (h1, .inr (9, [.int v2_0, .ref r2_1, .ref r2_2, .ref r2_3, .ref r2_4, .int v2_5, .ref r2_6, .ref r2_7, .ref r2_8])), (r2_1, .inl (k3, 4, .inl f3)), (r2_6, .inr (4, [.int v4_0, .int v4_1, .ref r4_2, .ref r4_3, .ref r4_4, .ref r4_5, .ref r4_6, .ref r4_7, .ref r4_8, .ref r4_9])), (r4_2, .inl (k5, 14, .inl f5)), (r1_1, .inl (k6, 1200, .inl f6)), (r1_0, .inl (k7, 13, .inl f7)), (r2_2, .inl (k8, 4, .inl f8)), (r2_3, .inl (k9, 4, .inl f9)), (r2_4, .inl (k10, 4, .inl f10))]) [7, 8, 0, 1, 2, 3, 9, 10, 4, 5, 6] rfl
        have hD := hD.sub (ws' := [(h0, .inr (5, [.ref r0_0, .int (u_26.1 0), .int (u_26.1 1), .int (u_26.1 2)])), (r0_0, .inr (10, [.ref r1_0, .ref r1_1, .int v1_2, .int (u_26.1 3), .int (u_26.1 4), .int (u_26.1 5), .int (u_26.1 6), .int (u_26.1 7)])), (h1, .inr (9, [.int v2_0, .ref r2_1, .ref r2_2, .ref r2_3, .ref r2_4, .int v2_5, .ref r2_6, .ref r2_7, .ref r2_8])), (r2_1, .inl (k3, 4, .inl f3)), (r2_6, .inr (4, [.int v4_0, .int v4_1, .ref r4_2, .ref r4_3, .ref r4_4, .ref r4_5, .ref r4_6, .ref r4_7, .ref r4_8, .ref r4_9])), (r4_2, .inl (k5, 14, .inl f5)), (r1_1, .inl (k6, 1200, .inl f6)), (r1_0, .inl (k7, 13, .inl f7)), (r2_2, .inl (k8, 4, .inl f8)), (r2_3, .inl (k9, 4, .inl f9)), (r2_4, .inl (k10, 4, .inl f10))]) [7, 8, 0, 1, 2, 3, 9, 10, 4, 5, 6] (by decide) rfl
        have hP : va_P (dC, dI) vwCl [(h0, .inr (5, [.ref r0_0, .int (u_26.1 0), .int (u_26.1 1), .int (u_26.1 2)])), (r0_0, .inr (10, [.ref r1_0, .ref r1_1, .int v1_2, .int (u_26.1 3), .int (u_26.1 4), .int (u_26.1 5), .int (u_26.1 6), .int (u_26.1 7)])), (h1, .inr (9, [.int v2_0, .ref r2_1, .ref r2_2, .ref r2_3, .ref r2_4, .int v2_5, .ref r2_6, .ref r2_7, .ref r2_8])), (r2_1, .inl (k3, 4, .inl f3)), (r2_6, .inr (4, [.int v4_0, .int v4_1, .ref r4_2, .ref r4_3, .ref r4_4, .ref r4_5, .ref r4_6, .ref r4_7, .ref r4_8, .ref r4_9])), (r4_2, .inl (k5, 14, .inl f5)), (r1_1, .inl (k6, 1200, .inl f6)), (r1_0, .inl (k7, 13, .inl f7)), (r2_2, .inl (k8, 4, .inl f8)), (r2_3, .inl (k9, 4, .inl f9)), (r2_4, .inl (k10, 4, .inl f10))] H := hP
        have hD : va_D A [(h0, .inr (5, [.ref r0_0, .int (u_26.1 0), .int (u_26.1 1), .int (u_26.1 2)])), (r0_0, .inr (10, [.ref r1_0, .ref r1_1, .int v1_2, .int (u_26.1 3), .int (u_26.1 4), .int (u_26.1 5), .int (u_26.1 6), .int (u_26.1 7)])), (h1, .inr (9, [.int v2_0, .ref r2_1, .ref r2_2, .ref r2_3, .ref r2_4, .int v2_5, .ref r2_6, .ref r2_7, .ref r2_8])), (r2_1, .inl (k3, 4, .inl f3)), (r2_6, .inr (4, [.int v4_0, .int v4_1, .ref r4_2, .ref r4_3, .ref r4_4, .ref r4_5, .ref r4_6, .ref r4_7, .ref r4_8, .ref r4_9])), (r4_2, .inl (k5, 14, .inl f5)), (r1_1, .inl (k6, 1200, .inl f6)), (r1_0, .inl (k7, 13, .inl f7)), (r2_2, .inl (k8, 4, .inl f8)), (r2_3, .inl (k9, 4, .inl f9)), (r2_4, .inl (k10, 4, .inl f10))] := hD
        obtain ⟨hr_25, hmr_25_1, hmr_25_2, hmr_25_3, hmr_25_4, -⟩ := hw_27
        refine lv_if_ne (tgt := 90) hx hb dX5_readFormat_85 (by decide) (fun c_28 => ?_) (fun c_28 => ?_)
        · have oc_28 := zk_ne rfl (by decide +kernel : (0 : Int32).toInt = 0) c_28
          refine lv_aload_n hx hb dX5_readFormat_90 rfl (lv_at hl 4 rfl) ?_
          refine lv_iload_n hx hb dX5_readFormat_91 rfl (lv_at hl 2 rfl) ?_
          refine lv_iload_n hx hb dX5_readFormat_92 rfl (lv_at hl 1 rfl) ?_
          refine lv_iload hx hb dX5_readFormat_93 (lv_at hl 0 rfl) ?_
          refine lv_aload_n hx hb dX5_readFormat_95 rfl (lv_at hl 3 rfl) ?_
          refine va_get (D := (dC, dI)) (ci := 5) (v := .int (u_26.1 0)) (C := RX5) (T := TX5) (N := 4) hx hb hts zn_X5_readFormat_X5 hown hK hP 0 rfl rfl 1 (by decide) (hts (.fieldLink RX5 102 "ShortEnough$Parser" "got" "I") zw_X5_readFormat_323) (fun _ h9 => h9) rfl dX5_readFormat_96 ?_
          have hPc := hP.sub (ws' := [(h1, .inr (9, [.int v2_0, .ref r2_1, .ref r2_2, .ref r2_3, .ref r2_4, .int v2_5, .ref r2_6, .ref r2_7, .ref r2_8])), (r2_1, .inl (k3, 4, .inl f3)), (r2_2, .inl (k8, 4, .inl f8)), (r2_3, .inl (k9, 4, .inl f9)), (r2_4, .inl (k10, 4, .inl f10))]) [2, 3, 8, 9, 10] rfl
          have hDc := hD.sub (ws' := [(h1, .inr (9, [.int v2_0, .ref r2_1, .ref r2_2, .ref r2_3, .ref r2_4, .int v2_5, .ref r2_6, .ref r2_7, .ref r2_8])), (r2_1, .inl (k3, 4, .inl f3)), (r2_2, .inl (k8, 4, .inl f8)), (r2_3, .inl (k9, 4, .inl f9)), (r2_4, .inl (k10, 4, .inl f10))]) [2, 3, 8, 9, 10] (by decide) rfl
          have hKc := hK.sub (tys' := [(k3, .int), (k8, .int), (k9, .int), (k10, .int)]) [0, 4, 5, 6] rfl
          have hFc := va_free (wc := [(h1, .inr (9, [.int v2_0, .ref r2_1, .ref r2_2, .ref r2_3, .ref r2_4, .int v2_5, .ref r2_6, .ref r2_7, .ref r2_8])), (r2_1, .inl (k3, 4, .inl f3)), (r2_2, .inl (k8, 4, .inl f8)), (r2_3, .inl (k9, 4, .inl f9)), (r2_4, .inl (k10, 4, .inl f10))]) hD hS hA [2, 3, 8, 9, 10] rfl
          refine va_callv (va_runV (As := [.int (u_2.1 0), .int (u_10.1 0), .int (u_18.1 0), .int (u_26.1 0)]) (rest := []) ⟨hx, hb, hml, hown, hts⟩ (zs_X9_addFormat l dC dI h1 (u_2.1 0) (u_10.1 0) (u_18.1 0) (u_26.1 0) v2_0 r2_1 r2_2 r2_3 r2_4 v2_5 r2_6 r2_7 r2_8 k3 f3 k8 f8 k9 f9 k10 f10 (by omega) H.size) (cwV 4 hts gX5_readFormat_X9_addFormat rfl rfl rfl (by decide +kernel) ⟨Nat.le_of_ble_eq_true rfl, Nat.le_of_ble_eq_true rfl⟩) ⟨fun a U g mk q => by obtain ⟨q0, q1, qP, qK, qD⟩ := q; exact ⟨q0, q1, qP, va_K.moved (u := U) (U := U.calling g mk a) (Vm.Alike.refl U.vm) qK, qD⟩, va_recv hKc hPc (ci := 9) (q0 := 0) rfl rfl, fun U hU hW => ⟨rfl, by rw [hU], by rw [hU]; exact hPc, va_K.moved hW.alike hKc, hDc.weaken (fun _ _ _ _ => trivial)⟩⟩ rfl rfl hl.1 rfl (lv_room (Nat.le_of_ble_eq_true rfl)) dX5_readFormat_99 ⟨Nat.le_of_ble_eq_true rfl, Nat.le_of_ble_eq_true rfl⟩) hS (fun q _ h => hFc q h) hFc (fun u_30 t H1 locs ht hvm hw_31 hB hz1 hk1 hS => ?_)
          obtain ⟨hP1, hK1, hD1⟩ := hB
          rw [ht] at hP1
          have hK1 := va_K.moved hvm.symm hK1
          obtain ⟨hP, hD⟩ := va_join (wr := [(h0, .inr (5, [.ref r0_0, .int (u_26.1 0), .int (u_26.1 1), .int (u_26.1 2)])), (r0_0, .inr (10, [.ref r1_0, .ref r1_1, .int v1_2, .int (u_26.1 3), .int (u_26.1 4), .int (u_26.1 5), .int (u_26.1 6), .int (u_26.1 7)])), (r2_6, .inr (4, [.int v4_0, .int v4_1, .ref r4_2, .ref r4_3, .ref r4_4, .ref r4_5, .ref r4_6, .ref r4_7, .ref r4_8, .ref r4_9])), (r4_2, .inl (k5, 14, .inl f5)), (r1_1, .inl (k6, 1200, .inl f6)), (r1_0, .inl (k7, 13, .inl f7))]) (w1 := [(h1, .inr (9, [.int (u_30.1 0), .ref r2_1, .ref r2_2, .ref r2_3, .ref r2_4, .int v2_5, .ref r2_6, .ref r2_7, .ref r2_8])), (r2_1, .inl (k3, 4, .inl (u_30.2.1 0))), (r2_2, .inl (k8, 4, .inl (u_30.2.1 1))), (r2_3, .inl (k9, 4, .inl (u_30.2.1 2))), (r2_4, .inl (k10, 4, .inl (u_30.2.1 3)))]) hP hD [2, 3, 8, 9, 10] [0, 1, 4, 5, 6, 7] rfl rfl (by decide) (by decide) hk1 hFc hP1 hD1
          have hK := hK
          generalize H1 = H at hP hS ⊢
          have hP := hP.sub (ws' := [(h0, .inr (5, [.ref r0_0, .int (u_26.1 0), .int (u_26.1 1), .int (u_26.1 2)])), (r0_0, .inr (10, [.ref r1_0, .ref r1_1, .int v1_2, .int (u_26.1 3), .int (u_26.1 4), .int (u_26.1 5), .int (u_26.1 6), .int (u_26.1 7)])), (h1, .inr (9, [.int (u_30.1 0), .ref r2_1, .ref r2_2, .ref r2_3, .ref r2_4, .int v2_5, .ref r2_6, .ref r2_7, .ref r2_8])), (r2_1, .inl (k3, 4, .inl (u_30.2.1 0))), (r2_6, .inr (4, [.int v4_0, .int v4_1, .ref r4_2, .ref r4_3, .ref r4_4, .ref r4_5, .ref r4_6, .ref r4_7, .ref r4_8, .ref r4_9])), (r4_2, .inl (k5, 14, .inl f5)), (r1_1, .inl (k6, 1200, .inl f6)), (r1_0, .inl (k7, 13, .inl f7)), (r2_2, .inl (k8, 4, .inl (u_30.2.1 1))), (r2_3, .inl (k9, 4, .inl (u_30.2.1 2))), (r2_4, .inl (k10, 4, .inl (u_30.2.1 3)))]) [0, 1, 6, 7, 2, 3, 4, 5, 8, 9, 10] rfl
          have hD := hD.sub (ws' := [(h0, .inr (5, [.ref r0_0, .int (u_26.1 0), .int (u_26.1 1), .int (u_26.1 2)])), (r0_0, .inr (10, [.ref r1_0, .ref r1_1, .int v1_2, .int (u_26.1 3), .int (u_26.1 4), .int (u_26.1 5), .int (u_26.1 6), .int (u_26.1 7)])), (h1, .inr (9, [.int (u_30.1 0), .ref r2_1, .ref r2_2, .ref r2_3, .ref r2_4, .int v2_5, .ref r2_6, .ref r2_7, .ref r2_8])), (r2_1, .inl (k3, 4, .inl (u_30.2.1 0))), (r2_6, .inr (4, [.int v4_0, .int v4_1, .ref r4_2, .ref r4_3, .ref r4_4, .ref r4_5, .ref r4_6, .ref r4_7, .ref r4_8, .ref r4_9])), (r4_2, .inl (k5, 14, .inl f5)), (r1_1, .inl (k6, 1200, .inl f6)), (r1_0, .inl (k7, 13, .inl f7)), (r2_2, .inl (k8, 4, .inl (u_30.2.1 1))), (r2_3, .inl (k9, 4, .inl (u_30.2.1 2))), (r2_4, .inl (k10, 4, .inl (u_30.2.1 3)))]) [0, 1, 6, 7, 2, 3, 4, 5, 8, 9, 10] (by decide) rfl
          have hP : va_P (dC, dI) vwCl [(h0, .inr (5, [.ref r0_0, .int (u_26.1 0), .int (u_26.1 1), .int (u_26.1 2)])), (r0_0, .inr (10, [.ref r1_0, .ref r1_1, .int v1_2, .int (u_26.1 3), .int (u_26.1 4), .int (u_26.1 5), .int (u_26.1 6), .int (u_26.1 7)])), (h1, .inr (9, [.int (u_30.1 0), .ref r2_1, .ref r2_2, .ref r2_3, .ref r2_4, .int v2_5, .ref r2_6, .ref r2_7, .ref r2_8])), (r2_1, .inl (k3, 4, .inl (u_30.2.1 0))), (r2_6, .inr (4, [.int v4_0, .int v4_1, .ref r4_2, .ref r4_3, .ref r4_4, .ref r4_5, .ref r4_6, .ref r4_7, .ref r4_8, .ref r4_9])), (r4_2, .inl (k5, 14, .inl f5)), (r1_1, .inl (k6, 1200, .inl f6)), (r1_0, .inl (k7, 13, .inl f7)), (r2_2, .inl (k8, 4, .inl (u_30.2.1 1))), (r2_3, .inl (k9, 4, .inl (u_30.2.1 2))), (r2_4, .inl (k10, 4, .inl (u_30.2.1 3)))] H := hP
          have hD : va_D A [(h0, .inr (5, [.ref r0_0, .int (u_26.1 0), .int (u_26.1 1), .int (u_26.1 2)])), (r0_0, .inr (10, [.ref r1_0, .ref r1_1, .int v1_2, .int (u_26.1 3), .int (u_26.1 4), .int (u_26.1 5), .int (u_26.1 6), .int (u_26.1 7)])), (h1, .inr (9, [.int (u_30.1 0), .ref r2_1, .ref r2_2, .ref r2_3, .ref r2_4, .int v2_5, .ref r2_6, .ref r2_7, .ref r2_8])), (r2_1, .inl (k3, 4, .inl (u_30.2.1 0))), (r2_6, .inr (4, [.int v4_0, .int v4_1, .ref r4_2, .ref r4_3, .ref r4_4, .ref r4_5, .ref r4_6, .ref r4_7, .ref r4_8, .ref r4_9])), (r4_2, .inl (k5, 14, .inl f5)), (r1_1, .inl (k6, 1200, .inl f6)), (r1_0, .inl (k7, 13, .inl f7)), (r2_2, .inl (k8, 4, .inl (u_30.2.1 1))), (r2_3, .inl (k9, 4, .inl (u_30.2.1 2))), (r2_4, .inl (k10, 4, .inl (u_30.2.1 3)))] := hD
          obtain ⟨hmr_29_0, -⟩ := hw_31
          refine lv_iconst (v := 1) hx hb dX5_readFormat_102 (by decide +kernel) ?_
          have hP9 := hP.sub (ws' := [(h0, .inr (5, [.ref r0_0, .int (u_26.1 0), .int (u_26.1 1), .int (u_26.1 2)])), (r0_0, .inr (10, [.ref r1_0, .ref r1_1, .int v1_2, .int (u_26.1 3), .int (u_26.1 4), .int (u_26.1 5), .int (u_26.1 6), .int (u_26.1 7)])), (h1, .inr (9, [.int (u_30.1 0), .ref r2_1, .ref r2_2, .ref r2_3, .ref r2_4, .int v2_5, .ref r2_6, .ref r2_7, .ref r2_8])), (r2_1, .inl (k3, 4, .inl (u_30.2.1 0))), (r2_6, .inr (4, [.int v4_0, .int v4_1, .ref r4_2, .ref r4_3, .ref r4_4, .ref r4_5, .ref r4_6, .ref r4_7, .ref r4_8, .ref r4_9])), (r4_2, .inl (k5, 14, .inl f5)), (r1_1, .inl (k6, 1200, .inl f6)), (r1_0, .inl (k7, 13, .inl f7)), (r2_2, .inl (k8, 4, .inl (u_30.2.1 1))), (r2_3, .inl (k9, 4, .inl (u_30.2.1 2))), (r2_4, .inl (k10, 4, .inl (u_30.2.1 3)))]) [0, 1, 2, 3, 4, 5, 6, 7, 8, 9, 10] rfl
          have hD9 := hD.sub (ws' := [(h0, .inr (5, [.ref r0_0, .int (u_26.1 0), .int (u_26.1 1), .int (u_26.1 2)])), (r0_0, .inr (10, [.ref r1_0, .ref r1_1, .int v1_2, .int (u_26.1 3), .int (u_26.1 4), .int (u_26.1 5), .int (u_26.1 6), .int (u_26.1 7)])), (h1, .inr (9, [.int (u_30.1 0), .ref r2_1, .ref r2_2, .ref r2_3, .ref r2_4, .int v2_5, .ref r2_6, .ref r2_7, .ref r2_8])), (r2_1, .inl (k3, 4, .inl (u_30.2.1 0))), (r2_6, .inr (4, [.int v4_0, .int v4_1, .ref r4_2, .ref r4_3, .ref r4_4, .ref r4_5, .ref r4_6, .ref r4_7, .ref r4_8, .ref r4_9])), (r4_2, .inl (k5, 14, .inl f5)), (r1_1, .inl (k6, 1200, .inl f6)), (r1_0, .inl (k7, 13, .inl f7)), (r2_2, .inl (k8, 4, .inl (u_30.2.1 1))), (r2_3, .inl (k9, 4, .inl (u_30.2.1 2))), (r2_4, .inl (k10, 4, .inl (u_30.2.1 3)))]) [0, 1, 2, 3, 4, 5, 6, 7, 8, 9, 10] (by decide) rfl
          have hK9 := hK.sub (tys' := [(k3, .int), (k5, .int), (k6, .byte), (k7, .int), (k8, .int), (k9, .int), (k10, .int)]) [0, 1, 2, 3, 4, 5, 6] rfl
          rw [← hQ]
          exact W.zret (v := 1) hx hb hr rfl (fun t ht hW => ⟨⟨1, ((fun k => ([(u_26.1 0), (u_26.1 1), (u_26.1 2), (u_26.1 3), (u_26.1 4), (u_26.1 5), (u_26.1 6), (u_26.1 7), (u_30.1 0)] : List Int32).getD k 0), (fun k => ([(u_30.2.1 0), (u_30.2.1 1), (u_30.2.1 2), (u_30.2.1 3)] : List (Nat → Int32)).getD k (fun _ => 0)), (fun k => ([] : List (Nat → Int64)).getD k (fun _ => 0))), rfl, ⟨(show (0 : Int) ≤ (1 : Int32).toInt ∧ (1 : Int32).toInt ≤ 1 by decide +kernel), (show (0 : Int) ≤ ((u_26.1 3) : Int32).toInt ∧ ((u_26.1 3) : Int32).toInt ≤ 1200 by omega), (show (0 : Int) ≤ ((u_26.1 4) : Int32).toInt ∧ ((u_26.1 4) : Int32).toInt ≤ 5 by omega), (show (0 : Int) ≤ ((u_26.1 5) : Int32).toInt ∧ ((u_26.1 5) : Int32).toInt ≤ 1200 by omega), (show (-1 : Int) ≤ ((u_26.1 7) : Int32).toInt ∧ ((u_26.1 7) : Int32).toInt ≤ 12 by omega), (show (0 : Int) ≤ ((u_30.1 0) : Int32).toInt ∧ ((u_30.1 0) : Int32).toInt ≤ 4 by omega), trivial⟩, by rw [ht]; exact hP9, va_K.moved hW.alike hK9, hD9⟩, hS.F ht⟩) hS.2.2 dX5_readFormat_103
        have oc_28 := zk_eq rfl (by decide +kernel : (0 : Int32).toInt = 0) c_28
        refine lv_iconst (v := 0) hx hb dX5_readFormat_88 (by decide +kernel) ?_
        have hP9 := hP.sub (ws' := [(h0, .inr (5, [.ref r0_0, .int (u_26.1 0), .int (u_26.1 1), .int (u_26.1 2)])), (r0_0, .inr (10, [.ref r1_0, .ref r1_1, .int v1_2, .int (u_26.1 3), .int (u_26.1 4), .int (u_26.1 5), .int (u_26.1 6), .int (u_26.1 7)])), (h1, .inr (9, [.int v2_0, .ref r2_1, .ref r2_2, .ref r2_3, .ref r2_4, .int v2_5, .ref r2_6, .ref r2_7, .ref r2_8])), (r2_1, .inl (k3, 4, .inl f3)), (r2_6, .inr (4, [.int v4_0, .int v4_1, .ref r4_2, .ref r4_3, .ref r4_4, .ref r4_5, .ref r4_6, .ref r4_7, .ref r4_8, .ref r4_9])), (r4_2, .inl (k5, 14, .inl f5)), (r1_1, .inl (k6, 1200, .inl f6)), (r1_0, .inl (k7, 13, .inl f7)), (r2_2, .inl (k8, 4, .inl f8)), (r2_3, .inl (k9, 4, .inl f9)), (r2_4, .inl (k10, 4, .inl f10))]) [0, 1, 2, 3, 4, 5, 6, 7, 8, 9, 10] rfl
        have hD9 := hD.sub (ws' := [(h0, .inr (5, [.ref r0_0, .int (u_26.1 0), .int (u_26.1 1), .int (u_26.1 2)])), (r0_0, .inr (10, [.ref r1_0, .ref r1_1, .int v1_2, .int (u_26.1 3), .int (u_26.1 4), .int (u_26.1 5), .int (u_26.1 6), .int (u_26.1 7)])), (h1, .inr (9, [.int v2_0, .ref r2_1, .ref r2_2, .ref r2_3, .ref r2_4, .int v2_5, .ref r2_6, .ref r2_7, .ref r2_8])), (r2_1, .inl (k3, 4, .inl f3)), (r2_6, .inr (4, [.int v4_0, .int v4_1, .ref r4_2, .ref r4_3, .ref r4_4, .ref r4_5, .ref r4_6, .ref r4_7, .ref r4_8, .ref r4_9])), (r4_2, .inl (k5, 14, .inl f5)), (r1_1, .inl (k6, 1200, .inl f6)), (r1_0, .inl (k7, 13, .inl f7)), (r2_2, .inl (k8, 4, .inl f8)), (r2_3, .inl (k9, 4, .inl f9)), (r2_4, .inl (k10, 4, .inl f10))]) [0, 1, 2, 3, 4, 5, 6, 7, 8, 9, 10] (by decide) rfl
        have hK9 := hK.sub (tys' := [(k3, .int), (k5, .int), (k6, .byte), (k7, .int), (k8, .int), (k9, .int), (k10, .int)]) [0, 1, 2, 3, 4, 5, 6] rfl
        rw [← hQ]
        exact W.zret (v := 0) hx hb hr rfl (fun t ht hW => ⟨⟨0, ((fun k => ([(u_26.1 0), (u_26.1 1), (u_26.1 2), (u_26.1 3), (u_26.1 4), (u_26.1 5), (u_26.1 6), (u_26.1 7), v2_0] : List Int32).getD k 0), (fun k => ([f3, f8, f9, f10] : List (Nat → Int32)).getD k (fun _ => 0)), (fun k => ([] : List (Nat → Int64)).getD k (fun _ => 0))), rfl, ⟨(show (0 : Int) ≤ (0 : Int32).toInt ∧ (0 : Int32).toInt ≤ 1 by decide +kernel), (show (0 : Int) ≤ ((u_26.1 3) : Int32).toInt ∧ ((u_26.1 3) : Int32).toInt ≤ 1200 by omega), (show (0 : Int) ≤ ((u_26.1 4) : Int32).toInt ∧ ((u_26.1 4) : Int32).toInt ≤ 5 by omega), (show (0 : Int) ≤ ((u_26.1 5) : Int32).toInt ∧ ((u_26.1 5) : Int32).toInt ≤ 1200 by omega), (show (-1 : Int) ≤ ((u_26.1 7) : Int32).toInt ∧ ((u_26.1 7) : Int32).toInt ≤ 12 by omega), (show (0 : Int) ≤ (v2_0 : Int32).toInt ∧ (v2_0 : Int32).toInt ≤ 4 by omega), trivial⟩, by rw [ht]; exact hP9, va_K.moved hW.alike hK9, hD9⟩, hS.F ht⟩) hS.2.2 dX5_readFormat_89
      have oc_20 := zk_eq rfl (by decide +kernel : (0 : Int32).toInt = 0) c_20
      refine lv_iconst (v := 0) hx hb dX5_readFormat_60 (by decide +kernel) ?_
      have hP9 := hP.sub (ws' := [(h0, .inr (5, [.ref r0_0, .int (u_18.1 0), .int (u_18.1 1), .int (u_18.1 2)])), (r0_0, .inr (10, [.ref r1_0, .ref r1_1, .int v1_2, .int (u_18.1 3), .int (u_18.1 4), .int (u_18.1 5), .int (u_18.1 6), .int (u_18.1 7)])), (h1, .inr (9, [.int v2_0, .ref r2_1, .ref r2_2, .ref r2_3, .ref r2_4, .int v2_5, .ref r2_6, .ref r2_7, .ref r2_8])), (r2_1, .inl (k3, 4, .inl f3)), (r2_6, .inr (4, [.int v4_0, .int v4_1, .ref r4_2, .ref r4_3, .ref r4_4, .ref r4_5, .ref r4_6, .ref r4_7, .ref r4_8, .ref r4_9])), (r4_2, .inl (k5, 14, .inl f5)), (r1_1, .inl (k6, 1200, .inl f6)), (r1_0, .inl (k7, 13, .inl f7)), (r2_2, .inl (k8, 4, .inl f8)), (r2_3, .inl (k9, 4, .inl f9)), (r2_4, .inl (k10, 4, .inl f10))]) [0, 1, 2, 3, 4, 5, 6, 7, 8, 9, 10] rfl
      have hD9 := hD.sub (ws' := [(h0, .inr (5, [.ref r0_0, .int (u_18.1 0), .int (u_18.1 1), .int (u_18.1 2)])), (r0_0, .inr (10, [.ref r1_0, .ref r1_1, .int v1_2, .int (u_18.1 3), .int (u_18.1 4), .int (u_18.1 5), .int (u_18.1 6), .int (u_18.1 7)])), (h1, .inr (9, [.int v2_0, .ref r2_1, .ref r2_2, .ref r2_3, .ref r2_4, .int v2_5, .ref r2_6, .ref r2_7, .ref r2_8])), (r2_1, .inl (k3, 4, .inl f3)), (r2_6, .inr (4, [.int v4_0, .int v4_1, .ref r4_2, .ref r4_3, .ref r4_4, .ref r4_5, .ref r4_6, .ref r4_7, .ref r4_8, .ref r4_9])), (r4_2, .inl (k5, 14, .inl f5)), (r1_1, .inl (k6, 1200, .inl f6)), (r1_0, .inl (k7, 13, .inl f7)), (r2_2, .inl (k8, 4, .inl f8)), (r2_3, .inl (k9, 4, .inl f9)), (r2_4, .inl (k10, 4, .inl f10))]) [0, 1, 2, 3, 4, 5, 6, 7, 8, 9, 10] (by decide) rfl
      have hK9 := hK.sub (tys' := [(k3, .int), (k5, .int), (k6, .byte), (k7, .int), (k8, .int), (k9, .int), (k10, .int)]) [0, 1, 2, 3, 4, 5, 6] rfl
      rw [← hQ]
      exact W.zret (v := 0) hx hb hr rfl (fun t ht hW => ⟨⟨0, ((fun k => ([(u_18.1 0), (u_18.1 1), (u_18.1 2), (u_18.1 3), (u_18.1 4), (u_18.1 5), (u_18.1 6), (u_18.1 7), v2_0] : List Int32).getD k 0), (fun k => ([f3, f8, f9, f10] : List (Nat → Int32)).getD k (fun _ => 0)), (fun k => ([] : List (Nat → Int64)).getD k (fun _ => 0))), rfl, ⟨(show (0 : Int) ≤ (0 : Int32).toInt ∧ (0 : Int32).toInt ≤ 1 by decide +kernel), (show (0 : Int) ≤ ((u_18.1 3) : Int32).toInt ∧ ((u_18.1 3) : Int32).toInt ≤ 1200 by omega), (show (0 : Int) ≤ ((u_18.1 4) : Int32).toInt ∧ ((u_18.1 4) : Int32).toInt ≤ 5 by omega), (show (0 : Int) ≤ ((u_18.1 5) : Int32).toInt ∧ ((u_18.1 5) : Int32).toInt ≤ 1200 by omega), (show (-1 : Int) ≤ ((u_18.1 7) : Int32).toInt ∧ ((u_18.1 7) : Int32).toInt ≤ 12 by omega), (show (0 : Int) ≤ (v2_0 : Int32).toInt ∧ (v2_0 : Int32).toInt ≤ 4 by omega), trivial⟩, by rw [ht]; exact hP9, va_K.moved hW.alike hK9, hD9⟩, hS.F ht⟩) hS.2.2 dX5_readFormat_61
    have oc_12 := zk_eq rfl (by decide +kernel : (0 : Int32).toInt = 0) c_12
    refine lv_iconst (v := 0) hx hb dX5_readFormat_34 (by decide +kernel) ?_
    have hP9 := hP.sub (ws' := [(h0, .inr (5, [.ref r0_0, .int (u_10.1 0), .int (u_10.1 1), .int (u_10.1 2)])), (r0_0, .inr (10, [.ref r1_0, .ref r1_1, .int v1_2, .int (u_10.1 3), .int (u_10.1 4), .int (u_10.1 5), .int (u_10.1 6), .int (u_10.1 7)])), (h1, .inr (9, [.int v2_0, .ref r2_1, .ref r2_2, .ref r2_3, .ref r2_4, .int v2_5, .ref r2_6, .ref r2_7, .ref r2_8])), (r2_1, .inl (k3, 4, .inl f3)), (r2_6, .inr (4, [.int v4_0, .int v4_1, .ref r4_2, .ref r4_3, .ref r4_4, .ref r4_5, .ref r4_6, .ref r4_7, .ref r4_8, .ref r4_9])), (r4_2, .inl (k5, 14, .inl f5)), (r1_1, .inl (k6, 1200, .inl f6)), (r1_0, .inl (k7, 13, .inl f7)), (r2_2, .inl (k8, 4, .inl f8)), (r2_3, .inl (k9, 4, .inl f9)), (r2_4, .inl (k10, 4, .inl f10))]) [0, 1, 2, 3, 4, 5, 6, 7, 8, 9, 10] rfl
    have hD9 := hD.sub (ws' := [(h0, .inr (5, [.ref r0_0, .int (u_10.1 0), .int (u_10.1 1), .int (u_10.1 2)])), (r0_0, .inr (10, [.ref r1_0, .ref r1_1, .int v1_2, .int (u_10.1 3), .int (u_10.1 4), .int (u_10.1 5), .int (u_10.1 6), .int (u_10.1 7)])), (h1, .inr (9, [.int v2_0, .ref r2_1, .ref r2_2, .ref r2_3, .ref r2_4, .int v2_5, .ref r2_6, .ref r2_7, .ref r2_8])), (r2_1, .inl (k3, 4, .inl f3)), (r2_6, .inr (4, [.int v4_0, .int v4_1, .ref r4_2, .ref r4_3, .ref r4_4, .ref r4_5, .ref r4_6, .ref r4_7, .ref r4_8, .ref r4_9])), (r4_2, .inl (k5, 14, .inl f5)), (r1_1, .inl (k6, 1200, .inl f6)), (r1_0, .inl (k7, 13, .inl f7)), (r2_2, .inl (k8, 4, .inl f8)), (r2_3, .inl (k9, 4, .inl f9)), (r2_4, .inl (k10, 4, .inl f10))]) [0, 1, 2, 3, 4, 5, 6, 7, 8, 9, 10] (by decide) rfl
    have hK9 := hK.sub (tys' := [(k3, .int), (k5, .int), (k6, .byte), (k7, .int), (k8, .int), (k9, .int), (k10, .int)]) [0, 1, 2, 3, 4, 5, 6] rfl
    rw [← hQ]
    exact W.zret (v := 0) hx hb hr rfl (fun t ht hW => ⟨⟨0, ((fun k => ([(u_10.1 0), (u_10.1 1), (u_10.1 2), (u_10.1 3), (u_10.1 4), (u_10.1 5), (u_10.1 6), (u_10.1 7), v2_0] : List Int32).getD k 0), (fun k => ([f3, f8, f9, f10] : List (Nat → Int32)).getD k (fun _ => 0)), (fun k => ([] : List (Nat → Int64)).getD k (fun _ => 0))), rfl, ⟨(show (0 : Int) ≤ (0 : Int32).toInt ∧ (0 : Int32).toInt ≤ 1 by decide +kernel), (show (0 : Int) ≤ ((u_10.1 3) : Int32).toInt ∧ ((u_10.1 3) : Int32).toInt ≤ 1200 by omega), (show (0 : Int) ≤ ((u_10.1 4) : Int32).toInt ∧ ((u_10.1 4) : Int32).toInt ≤ 5 by omega), (show (0 : Int) ≤ ((u_10.1 5) : Int32).toInt ∧ ((u_10.1 5) : Int32).toInt ≤ 1200 by omega), (show (-1 : Int) ≤ ((u_10.1 7) : Int32).toInt ∧ ((u_10.1 7) : Int32).toInt ≤ 12 by omega), (show (0 : Int) ≤ (v2_0 : Int32).toInt ∧ (v2_0 : Int32).toInt ≤ 4 by omega), trivial⟩, by rw [ht]; exact hP9, va_K.moved hW.alike hK9, hD9⟩, hS.F ht⟩) hS.2.2 dX5_readFormat_35
  have oc_4 := zk_eq rfl (by decide +kernel : (0 : Int32).toInt = 0) c_4
  refine lv_iconst (v := 0) hx hb dX5_readFormat_8 (by decide +kernel) ?_
  have hP9 := hP.sub (ws' := [(h0, .inr (5, [.ref r0_0, .int (u_2.1 0), .int (u_2.1 1), .int (u_2.1 2)])), (r0_0, .inr (10, [.ref r1_0, .ref r1_1, .int v1_2, .int (u_2.1 3), .int (u_2.1 4), .int (u_2.1 5), .int (u_2.1 6), .int (u_2.1 7)])), (h1, .inr (9, [.int v2_0, .ref r2_1, .ref r2_2, .ref r2_3, .ref r2_4, .int v2_5, .ref r2_6, .ref r2_7, .ref r2_8])), (r2_1, .inl (k3, 4, .inl f3)), (r2_6, .inr (4, [.int v4_0, .int v4_1, .ref r4_2, .ref r4_3, .ref r4_4, .ref r4_5, .ref r4_6, .ref r4_7, .ref r4_8, .ref r4_9])), (r4_2, .inl (k5, 14, .inl f5)), (r1_1, .inl (k6, 1200, .inl f6)), (r1_0, .inl (k7, 13, .inl f7)), (r2_2, .inl (k8, 4, .inl f8)), (r2_3, .inl (k9, 4, .inl f9)), (r2_4, .inl (k10, 4, .inl f10))]) [0, 1, 2, 3, 4, 5, 6, 7, 8, 9, 10] rfl
  have hD9 := hD.sub (ws' := [(h0, .inr (5, [.ref r0_0, .int (u_2.1 0), .int (u_2.1 1), .int (u_2.1 2)])), (r0_0, .inr (10, [.ref r1_0, .ref r1_1, .int v1_2, .int (u_2.1 3), .int (u_2.1 4), .int (u_2.1 5), .int (u_2.1 6), .int (u_2.1 7)])), (h1, .inr (9, [.int v2_0, .ref r2_1, .ref r2_2, .ref r2_3, .ref r2_4, .int v2_5, .ref r2_6, .ref r2_7, .ref r2_8])), (r2_1, .inl (k3, 4, .inl f3)), (r2_6, .inr (4, [.int v4_0, .int v4_1, .ref r4_2, .ref r4_3, .ref r4_4, .ref r4_5, .ref r4_6, .ref r4_7, .ref r4_8, .ref r4_9])), (r4_2, .inl (k5, 14, .inl f5)), (r1_1, .inl (k6, 1200, .inl f6)), (r1_0, .inl (k7, 13, .inl f7)), (r2_2, .inl (k8, 4, .inl f8)), (r2_3, .inl (k9, 4, .inl f9)), (r2_4, .inl (k10, 4, .inl f10))]) [0, 1, 2, 3, 4, 5, 6, 7, 8, 9, 10] (by decide) rfl
  have hK9 := hK.sub (tys' := [(k3, .int), (k5, .int), (k6, .byte), (k7, .int), (k8, .int), (k9, .int), (k10, .int)]) [0, 1, 2, 3, 4, 5, 6] rfl
  rw [← hQ]
  exact W.zret (v := 0) hx hb hr rfl (fun t ht hW => ⟨⟨0, ((fun k => ([(u_2.1 0), (u_2.1 1), (u_2.1 2), (u_2.1 3), (u_2.1 4), (u_2.1 5), (u_2.1 6), (u_2.1 7), v2_0] : List Int32).getD k 0), (fun k => ([f3, f8, f9, f10] : List (Nat → Int32)).getD k (fun _ => 0)), (fun k => ([] : List (Nat → Int64)).getD k (fun _ => 0))), rfl, ⟨(show (0 : Int) ≤ (0 : Int32).toInt ∧ (0 : Int32).toInt ≤ 1 by decide +kernel), (show (0 : Int) ≤ ((u_2.1 3) : Int32).toInt ∧ ((u_2.1 3) : Int32).toInt ≤ 1200 by omega), (show (0 : Int) ≤ ((u_2.1 4) : Int32).toInt ∧ ((u_2.1 4) : Int32).toInt ≤ 5 by omega), (show (0 : Int) ≤ ((u_2.1 5) : Int32).toInt ∧ ((u_2.1 5) : Int32).toInt ≤ 1200 by omega), (show (-1 : Int) ≤ ((u_2.1 7) : Int32).toInt ∧ ((u_2.1 7) : Int32).toInt ≤ 12 by omega), (show (0 : Int) ≤ (v2_0 : Int32).toInt ∧ (v2_0 : Int32).toInt ≤ 4 by omega), trivial⟩, by rw [ht]; exact hP9, va_K.moved hW.alike hK9, hD9⟩, hS.F ht⟩) hS.2.2 dX5_readFormat_9
set_option maxHeartbeats 4000000 in
set_option maxRecDepth 100000 in
theorem zs_X1_forget (l : Launch) (dC : Nat → ClassId) (dI : Nat → Nat → Nat) (h0 : Nat) (r0_0 : Nat) (r0_1 : Nat) (v0_2 : Int32) (v0_3 : Int32) (r0_4 : Nat) (r0_5 : Nat) (v0_6 : Int32) (v0_7 : Int32) (v0_8 : Int32) (v0_9 : Int32) (v0_10 : Int32) (r0_11 : Nat) (r0_12 : Nat) (r0_13 : Nat) (hq_v0_2 : (0 : Int) ≤ v0_2.toInt ∧ v0_2.toInt ≤ 1) (sz : Nat) : Met l yX1_forget wsX1_forget ({ frames := 0, cells := 0, slots := 0, locals := 0 }) (va_Pc [.ref h0] (fun U => U.heap.size = sz ∧ va_P (dC, dI) vwCl [(h0, .inr (1, [.ref r0_0, .ref r0_1, .int v0_2, .int v0_3, .ref r0_4, .ref r0_5, .int v0_6, .int v0_7, .int v0_8, .int v0_9, .int v0_10, .ref r0_11, .ref r0_12, .ref r0_13]))] U.heap ∧ va_K (dC, dI) vwCl [] U ∧ va_D (fun _ => True) [(h0, .inr (1, [.ref r0_0, .ref r0_1, .int v0_2, .int v0_3, .ref r0_4, .ref r0_5, .int v0_6, .int v0_7, .int v0_8, .int v0_9, .int v0_10, .ref r0_11, .ref r0_12, .ref r0_13]))])) (va_Qv (fun (u : zV) => ((0 : Int) ≤ (u.1 0).toInt ∧ (u.1 0).toInt ≤ 1) ∧ True) (fun u t => va_P (dC, dI) vwCl [(h0, .inr (1, [.ref r0_0, .ref r0_1, .int (u.1 0), .int v0_3, .ref r0_4, .ref r0_5, .int v0_6, .int v0_7, .int v0_8, .int (u.1 1), .int v0_10, .ref r0_11, .ref r0_12, .ref r0_13]))] t.heap ∧ va_K (dC, dI) vwCl [] t ∧ va_D (va_A [(h0, .inr (1, [.ref r0_0, .ref r0_1, .int v0_2, .int v0_3, .ref r0_4, .ref r0_5, .int v0_6, .int v0_7, .int v0_8, .int v0_9, .int v0_10, .ref r0_11, .ref r0_12, .ref r0_13]))] sz) [(h0, .inr (1, [.ref r0_0, .ref r0_1, .int (u.1 0), .int v0_3, .ref r0_4, .ref r0_5, .int v0_6, .int v0_7, .int v0_8, .int (u.1 1), .int v0_10, .ref r0_11, .ref r0_12, .ref r0_13]))]) (va_A [(h0, .inr (1, [.ref r0_0, .ref r0_1, .int v0_2, .int v0_3, .ref r0_4, .ref r0_5, .int v0_6, .int v0_7, .int v0_8, .int v0_9, .int v0_10, .ref r0_11, .ref r0_12, .ref r0_13]))] sz)) 0 0 (va_A [(h0, .inr (1, [.ref r0_0, .ref r0_1, .int v0_2, .int v0_3, .ref r0_4, .ref r0_5, .int v0_6, .int v0_7, .int v0_8, .int v0_9, .int v0_10, .ref r0_11, .ref r0_12, .ref r0_13]))] sz) := by
  refine Met.ofW (cc := cX1_forget) (maxL := 1) (ret := none) (by decide +kernel) rfl ?_
  intro p e s m args below meth c s₁ B hml hv
  obtain ⟨rfl, hsz, hP, hK, hD0⟩ := hv
  have hx := B.exec
  have hb := B.bytes
  have hr := B.returns
  have hts := atoms_spec (ws := wsX1_forget) B.pre
  have hown : s.vm.findClass RX1 = some m.cls := findClass_of_methodNamed B.named
  have hlocks := B.notSynchronized
  subst hsz
  have hD := hD0.self (sz := s.heap.size)
  generalize hAe : va_A [(h0, .inr (1, [.ref r0_0, .ref r0_1, .int v0_2, .int v0_3, .ref r0_4, .ref r0_5, .int v0_6, .int v0_7, .int v0_8, .int v0_9, .int v0_10, .ref r0_11, .ref r0_12, .ref r0_13]))] s.heap.size = A at hD ⊢
  have hA : ∀ q : Nat, s.heap.size ≤ q → A q := fun q h => by rw [← hAe]; exact Or.inr h
  have hS : va_S A s.heap s.heap [] := va_S.rf
  have hP : va_P (dC, dI) vwCl [(h0, .inr (1, [.ref r0_0, .ref r0_1, .int v0_2, .int v0_3, .ref r0_4, .ref r0_5, .int v0_6, .int v0_7, .int v0_8, .int v0_9, .int v0_10, .ref r0_11, .ref r0_12, .ref r0_13]))] s.heap := hP
  have hl := lv_entry ([.ref h0]) (n := 1) (Nat.le_of_ble_eq_true rfl)
  rw [lg_entry_eq]
  generalize (lg_sl ([.ref h0]) ++ List.replicate (1 - (lg_sl ([.ref h0])).length) Slot.unset).toArray = ls at hl ⊢
  have hl : lv_has ls 1 [(0, .ref h0)] := hl
  generalize hQ : MQ below (va_Qv (fun (u : zV) => ((0 : Int) ≤ (u.1 0).toInt ∧ (u.1 0).toInt ≤ 1) ∧ True) (fun u t => va_P (dC, dI) vwCl [(h0, .inr (1, [.ref r0_0, .ref r0_1, .int (u.1 0), .int v0_3, .ref r0_4, .ref r0_5, .int v0_6, .int v0_7, .int v0_8, .int (u.1 1), .int v0_10, .ref r0_11, .ref r0_12, .ref r0_13]))] t.heap ∧ va_K (dC, dI) vwCl [] t ∧ va_D A [(h0, .inr (1, [.ref r0_0, .ref r0_1, .int (u.1 0), .int v0_3, .ref r0_4, .ref r0_5, .int v0_6, .int v0_7, .int v0_8, .int (u.1 1), .int v0_10, .ref r0_11, .ref r0_12, .ref r0_13]))]) A) ([.ref h0] : List Value).toArray s 0 0 A = Q
  refine lv_aload_n hx hb dX1_forget_0 rfl (lv_at hl 0 rfl) ?_
  refine lv_iconst (v := 0) hx hb dX1_forget_1 (by decide +kernel) ?_
  refine va_put (D := (dC, dI)) (ci := 1) (v := .int 0) (ty := .boolean) (C := RX1) (T := TX1) (N := 14) hx hb hts zn_X1_forget_X1 tyX1 tyX1_ok nmX1 hown hK hP hD hS 0 rfl rfl 2 (by decide) (hts (.fieldLink RX1 44 "ShortEnough$FullSearch" "ready" "Z") zw_X1_forget_327) (fun _ h9 => h9) rfl (by decide +kernel) rfl rfl (Nat.le_of_ble_eq_true rfl) dX1_forget_2 (fun H locs hP hD hS => ?_)
  have hP : va_P (dC, dI) vwCl [(h0, .inr (1, [.ref r0_0, .ref r0_1, .int 0, .int v0_3, .ref r0_4, .ref r0_5, .int v0_6, .int v0_7, .int v0_8, .int v0_9, .int v0_10, .ref r0_11, .ref r0_12, .ref r0_13]))] H := hP
  have hD : va_D A [(h0, .inr (1, [.ref r0_0, .ref r0_1, .int 0, .int v0_3, .ref r0_4, .ref r0_5, .int v0_6, .int v0_7, .int v0_8, .int v0_9, .int v0_10, .ref r0_11, .ref r0_12, .ref r0_13]))] := hD
  refine lv_aload_n hx hb dX1_forget_5 rfl (lv_at hl 0 rfl) ?_
  refine lv_iconst (v := (-1)) hx hb dX1_forget_6 (by decide +kernel) ?_
  refine va_put (D := (dC, dI)) (ci := 1) (v := .int (-1)) (ty := .int) (C := RX1) (T := TX1) (N := 14) hx hb hts zn_X1_forget_X1 tyX1 tyX1_ok nmX1 hown hK hP hD hS 0 rfl rfl 9 (by decide) (hts (.fieldLink RX1 32 "ShortEnough$FullSearch" "frontOf" "I") zw_X1_forget_328) (fun _ h9 => h9) rfl (by decide +kernel) rfl rfl (Nat.le_of_ble_eq_true rfl) dX1_forget_7 (fun H locs hP hD hS => ?_)
  have hP : va_P (dC, dI) vwCl [(h0, .inr (1, [.ref r0_0, .ref r0_1, .int 0, .int v0_3, .ref r0_4, .ref r0_5, .int v0_6, .int v0_7, .int v0_8, .int (-1), .int v0_10, .ref r0_11, .ref r0_12, .ref r0_13]))] H := hP
  have hD : va_D A [(h0, .inr (1, [.ref r0_0, .ref r0_1, .int 0, .int v0_3, .ref r0_4, .ref r0_5, .int v0_6, .int v0_7, .int v0_8, .int (-1), .int v0_10, .ref r0_11, .ref r0_12, .ref r0_13]))] := hD
  have hP9 := hP.sub (ws' := [(h0, .inr (1, [.ref r0_0, .ref r0_1, .int 0, .int v0_3, .ref r0_4, .ref r0_5, .int v0_6, .int v0_7, .int v0_8, .int (-1), .int v0_10, .ref r0_11, .ref r0_12, .ref r0_13]))]) [0] rfl
  have hD9 := hD.sub (ws' := [(h0, .inr (1, [.ref r0_0, .ref r0_1, .int 0, .int v0_3, .ref r0_4, .ref r0_5, .int v0_6, .int v0_7, .int v0_8, .int (-1), .int v0_10, .ref r0_11, .ref r0_12, .ref r0_13]))]) [0] (by decide) rfl
  have hK9 := hK.sub (tys' := []) [] rfl
  rw [← hQ]
  exact W.vret hx hb hr (fun t ht hW => ⟨⟨((fun k => ([0, (-1)] : List Int32).getD k 0), (fun k => ([] : List (Nat → Int32)).getD k (fun _ => 0)), (fun k => ([] : List (Nat → Int64)).getD k (fun _ => 0))), rfl, ⟨(show (0 : Int) ≤ (0 : Int32).toInt ∧ (0 : Int32).toInt ≤ 1 by decide +kernel), trivial⟩, by rw [ht]; exact hP9, va_K.moved hW.alike hK9, hD9⟩, hS.F ht⟩) hS.2.2 dX1_forget_10
set_option maxHeartbeats 4000000 in
set_option maxRecDepth 100000 in
theorem zs_X3_forget (l : Launch) (dC : Nat → ClassId) (dI : Nat → Nat → Nat) (h0 : Nat) (r0_0 : Nat) (r0_1 : Nat) (v0_2 : Int32) (v0_3 : Int32) (r0_4 : Nat) (r0_5 : Nat) (r0_6 : Nat) (r0_7 : Nat) (v0_8 : Int32) (r0_9 : Nat) (v0_10 : Int32) (v0_11 : Int32) (v0_12 : Int32) (v0_13 : Int32) (v0_14 : Int32) (v0_15 : Int32) (hq_v0_2 : (0 : Int) ≤ v0_2.toInt ∧ v0_2.toInt ≤ 1) (hq_v0_3 : (0 : Int) ≤ v0_3.toInt ∧ v0_3.toInt ≤ 1) (hq_v0_8 : (0 : Int) ≤ v0_8.toInt ∧ v0_8.toInt ≤ 28) (sz : Nat) : Met l yX3_forget wsX3_forget ({ frames := 0, cells := 0, slots := 0, locals := 0 }) (va_Pc [.ref h0] (fun U => U.heap.size = sz ∧ va_P (dC, dI) vwCl [(h0, .inr (3, [.ref r0_0, .ref r0_1, .int v0_2, .int v0_3, .ref r0_4, .ref r0_5, .ref r0_6, .ref r0_7, .int v0_8, .ref r0_9, .int v0_10, .int v0_11, .int v0_12, .int v0_13, .int v0_14, .int v0_15]))] U.heap ∧ va_K (dC, dI) vwCl [] U ∧ va_D (fun _ => True) [(h0, .inr (3, [.ref r0_0, .ref r0_1, .int v0_2, .int v0_3, .ref r0_4, .ref r0_5, .ref r0_6, .ref r0_7, .int v0_8, .ref r0_9, .int v0_10, .int v0_11, .int v0_12, .int v0_13, .int v0_14, .int v0_15]))])) (va_Qv (fun (u : zV) => ((0 : Int) ≤ (u.1 0).toInt ∧ (u.1 0).toInt ≤ 1) ∧ True) (fun u t => va_P (dC, dI) vwCl [(h0, .inr (3, [.ref r0_0, .ref r0_1, .int (u.1 0), .int v0_3, .ref r0_4, .ref r0_5, .ref r0_6, .ref r0_7, .int v0_8, .ref r0_9, .int v0_10, .int v0_11, .int v0_12, .int v0_13, .int v0_14, .int v0_15]))] t.heap ∧ va_K (dC, dI) vwCl [] t ∧ va_D (va_A [(h0, .inr (3, [.ref r0_0, .ref r0_1, .int v0_2, .int v0_3, .ref r0_4, .ref r0_5, .ref r0_6, .ref r0_7, .int v0_8, .ref r0_9, .int v0_10, .int v0_11, .int v0_12, .int v0_13, .int v0_14, .int v0_15]))] sz) [(h0, .inr (3, [.ref r0_0, .ref r0_1, .int (u.1 0), .int v0_3, .ref r0_4, .ref r0_5, .ref r0_6, .ref r0_7, .int v0_8, .ref r0_9, .int v0_10, .int v0_11, .int v0_12, .int v0_13, .int v0_14, .int v0_15]))]) (va_A [(h0, .inr (3, [.ref r0_0, .ref r0_1, .int v0_2, .int v0_3, .ref r0_4, .ref r0_5, .ref r0_6, .ref r0_7, .int v0_8, .ref r0_9, .int v0_10, .int v0_11, .int v0_12, .int v0_13, .int v0_14, .int v0_15]))] sz)) 0 0 (va_A [(h0, .inr (3, [.ref r0_0, .ref r0_1, .int v0_2, .int v0_3, .ref r0_4, .ref r0_5, .ref r0_6, .ref r0_7, .int v0_8, .ref r0_9, .int v0_10, .int v0_11, .int v0_12, .int v0_13, .int v0_14, .int v0_15]))] sz) := by
  refine Met.ofW (cc := cX3_forget) (maxL := 1) (ret := none) (by decide +kernel) rfl ?_
  intro p e s m args below meth c s₁ B hml hv
  obtain ⟨rfl, hsz, hP, hK, hD0⟩ := hv
  have hx := B.exec
  have hb := B.bytes
  have hr := B.returns
  have hts := atoms_spec (ws := wsX3_forget) B.pre
  have hown : s.vm.findClass RX3 = some m.cls := findClass_of_methodNamed B.named
  have hlocks := B.notSynchronized
  subst hsz
  have hD := hD0.self (sz := s.heap.size)
  generalize hAe : va_A [(h0, .inr (3, [.ref r0_0, .ref r0_1, .int v0_2, .int v0_3, .ref r0_4, .ref r0_5, .ref r0_6, .ref r0_7, .int v0_8, .ref r0_9, .int v0_10, .int v0_11, .int v0_12, .int v0_13, .int v0_14, .int v0_15]))] s.heap.size = A at hD ⊢
  have hA : ∀ q : Nat, s.heap.size ≤ q → A q := fun q h => by rw [← hAe]; exact Or.inr h
  have hS : va_S A s.heap s.heap [] := va_S.rf
  have hP : va_P (dC, dI) vwCl [(h0, .inr (3, [.ref r0_0, .ref r0_1, .int v0_2, .int v0_3, .ref r0_4, .ref r0_5, .ref r0_6, .ref r0_7, .int v0_8, .ref r0_9, .int v0_10, .int v0_11, .int v0_12, .int v0_13, .int v0_14, .int v0_15]))] s.heap := hP
  have hl := lv_entry ([.ref h0]) (n := 1) (Nat.le_of_ble_eq_true rfl)
  rw [lg_entry_eq]
  generalize (lg_sl ([.ref h0]) ++ List.replicate (1 - (lg_sl ([.ref h0])).length) Slot.unset).toArray = ls at hl ⊢
  have hl : lv_has ls 1 [(0, .ref h0)] := hl
  generalize hQ : MQ below (va_Qv (fun (u : zV) => ((0 : Int) ≤ (u.1 0).toInt ∧ (u.1 0).toInt ≤ 1) ∧ True) (fun u t => va_P (dC, dI) vwCl [(h0, .inr (3, [.ref r0_0, .ref r0_1, .int (u.1 0), .int v0_3, .ref r0_4, .ref r0_5, .ref r0_6, .ref r0_7, .int v0_8, .ref r0_9, .int v0_10, .int v0_11, .int v0_12, .int v0_13, .int v0_14, .int v0_15]))] t.heap ∧ va_K (dC, dI) vwCl [] t ∧ va_D A [(h0, .inr (3, [.ref r0_0, .ref r0_1, .int (u.1 0), .int v0_3, .ref r0_4, .ref r0_5, .ref r0_6, .ref r0_7, .int v0_8, .ref r0_9, .int v0_10, .int v0_11, .int v0_12, .int v0_13, .int v0_14, .int v0_15]))]) A) ([.ref h0] : List Value).toArray s 0 0 A = Q
  refine lv_aload_n hx hb dX3_forget_0 rfl (lv_at hl 0 rfl) ?_
  refine lv_iconst (v := 0) hx hb dX3_forget_1 (by decide +kernel) ?_
  refine va_put (D := (dC, dI)) (ci := 3) (v := .int 0) (ty := .boolean) (C := RX3) (T := TX3) (N := 16) hx hb hts zn_X3_forget_X3 tyX3 tyX3_ok nmX3 hown hK hP hD hS 0 rfl rfl 2 (by decide) (hts (.fieldLink RX3 45 "ShortEnough$LocalSearch" "ready" "Z") zw_X3_forget_330) (fun _ h9 => h9) rfl (by decide +kernel) rfl rfl (Nat.le_of_ble_eq_true rfl) dX3_forget_2 (fun H locs hP hD hS => ?_)
  have hP : va_P (dC, dI) vwCl [(h0, .inr (3, [.ref r0_0, .ref r0_1, .int 0, .int v0_3, .ref r0_4, .ref r0_5, .ref r0_6, .ref r0_7, .int v0_8, .ref r0_9, .int v0_10, .int v0_11, .int v0_12, .int v0_13, .int v0_14, .int v0_15]))] H := hP
  have hD : va_D A [(h0, .inr (3, [.ref r0_0, .ref r0_1, .int 0, .int v0_3, .ref r0_4, .ref r0_5, .ref r0_6, .ref r0_7, .int v0_8, .ref r0_9, .int v0_10, .int v0_11, .int v0_12, .int v0_13, .int v0_14, .int v0_15]))] := hD
  have hP9 := hP.sub (ws' := [(h0, .inr (3, [.ref r0_0, .ref r0_1, .int 0, .int v0_3, .ref r0_4, .ref r0_5, .ref r0_6, .ref r0_7, .int v0_8, .ref r0_9, .int v0_10, .int v0_11, .int v0_12, .int v0_13, .int v0_14, .int v0_15]))]) [0] rfl
  have hD9 := hD.sub (ws' := [(h0, .inr (3, [.ref r0_0, .ref r0_1, .int 0, .int v0_3, .ref r0_4, .ref r0_5, .ref r0_6, .ref r0_7, .int v0_8, .ref r0_9, .int v0_10, .int v0_11, .int v0_12, .int v0_13, .int v0_14, .int v0_15]))]) [0] (by decide) rfl
  have hK9 := hK.sub (tys' := []) [] rfl
  rw [← hQ]
  exact W.vret hx hb hr (fun t ht hW => ⟨⟨((fun k => ([0] : List Int32).getD k 0), (fun k => ([] : List (Nat → Int32)).getD k (fun _ => 0)), (fun k => ([] : List (Nat → Int64)).getD k (fun _ => 0))), rfl, ⟨(show (0 : Int) ≤ (0 : Int32).toInt ∧ (0 : Int32).toInt ≤ 1 by decide +kernel), trivial⟩, by rw [ht]; exact hP9, va_K.moved hW.alike hK9, hD9⟩, hS.F ht⟩) hS.2.2 dX3_forget_5
set_option maxHeartbeats 4000000 in
set_option maxRecDepth 100000 in
theorem zs_X0_forget (l : Launch) (dC : Nat → ClassId) (dI : Nat → Nat → Nat) (h0 : Nat) (r0_0 : Nat) (r0_1 : Nat) (r0_2 : Nat) (v0_3 : Int32) (v0_4 : Int32)  (sz : Nat) : Met l yX0_forget wsX0_forget ({ frames := 0, cells := 0, slots := 0, locals := 0 }) (va_Pc [.ref h0] (fun U => U.heap.size = sz ∧ va_P (dC, dI) vwCl [(h0, .inr (0, [.ref r0_0, .ref r0_1, .ref r0_2, .int v0_3, .int v0_4]))] U.heap ∧ va_K (dC, dI) vwCl [] U ∧ va_D (fun _ => True) [(h0, .inr (0, [.ref r0_0, .ref r0_1, .ref r0_2, .int v0_3, .int v0_4]))])) (va_Qv (fun (u : zV) => True) (fun u t => va_P (dC, dI) vwCl [(h0, .inr (0, [.ref r0_0, .ref r0_1, .ref r0_2, .int (u.1 0), .int (u.1 1)]))] t.heap ∧ va_K (dC, dI) vwCl [] t ∧ va_D (va_A [(h0, .inr (0, [.ref r0_0, .ref r0_1, .ref r0_2, .int v0_3, .int v0_4]))] sz) [(h0, .inr (0, [.ref r0_0, .ref r0_1, .ref r0_2, .int (u.1 0), .int (u.1 1)]))]) (va_A [(h0, .inr (0, [.ref r0_0, .ref r0_1, .ref r0_2, .int v0_3, .int v0_4]))] sz)) 0 0 (va_A [(h0, .inr (0, [.ref r0_0, .ref r0_1, .ref r0_2, .int v0_3, .int v0_4]))] sz) := by
  refine Met.ofW (cc := cX0_forget) (maxL := 1) (ret := none) (by decide +kernel) rfl ?_
  intro p e s m args below meth c s₁ B hml hv
  obtain ⟨rfl, hsz, hP, hK, hD0⟩ := hv
  have hx := B.exec
  have hb := B.bytes
  have hr := B.returns
  have hts := atoms_spec (ws := wsX0_forget) B.pre
  have hown : s.vm.findClass RX0 = some m.cls := findClass_of_methodNamed B.named
  have hlocks := B.notSynchronized
  subst hsz
  have hD := hD0.self (sz := s.heap.size)
  generalize hAe : va_A [(h0, .inr (0, [.ref r0_0, .ref r0_1, .ref r0_2, .int v0_3, .int v0_4]))] s.heap.size = A at hD ⊢
  have hA : ∀ q : Nat, s.heap.size ≤ q → A q := fun q h => by rw [← hAe]; exact Or.inr h
  have hS : va_S A s.heap s.heap [] := va_S.rf
  have hP : va_P (dC, dI) vwCl [(h0, .inr (0, [.ref r0_0, .ref r0_1, .ref r0_2, .int v0_3, .int v0_4]))] s.heap := hP
  have hl := lv_entry ([.ref h0]) (n := 1) (Nat.le_of_ble_eq_true rfl)
  rw [lg_entry_eq]
  generalize (lg_sl ([.ref h0]) ++ List.replicate (1 - (lg_sl ([.ref h0])).length) Slot.unset).toArray = ls at hl ⊢
  have hl : lv_has ls 1 [(0, .ref h0)] := hl
  generalize hQ : MQ below (va_Qv (fun (u : zV) => True) (fun u t => va_P (dC, dI) vwCl [(h0, .inr (0, [.ref r0_0, .ref r0_1, .ref r0_2, .int (u.1 0), .int (u.1 1)]))] t.heap ∧ va_K (dC, dI) vwCl [] t ∧ va_D A [(h0, .inr (0, [.ref r0_0, .ref r0_1, .ref r0_2, .int (u.1 0), .int (u.1 1)]))]) A) ([.ref h0] : List Value).toArray s 0 0 A = Q
  refine lv_aload_n hx hb dX0_forget_0 rfl (lv_at hl 0 rfl) ?_
  refine lv_iconst (v := (-1)) hx hb dX0_forget_1 (by decide +kernel) ?_
  refine va_put (D := (dC, dI)) (ci := 0) (v := .int (-1)) (ty := .int) (C := RX0) (T := TX0) (N := 5) hx hb hts zn_X0_forget_X0 tyX0 tyX0_ok nmX0 hown hK hP hD hS 0 rfl rfl 3 (by decide) (hts (.fieldLink RX0 29 "ShortEnough$CertificateReader" "breaksAt" "I") zw_X0_forget_332) (fun _ h9 => h9) rfl (by decide +kernel) rfl rfl (Nat.le_of_ble_eq_true rfl) dX0_forget_2 (fun H locs hP hD hS => ?_)
  have hP : va_P (dC, dI) vwCl [(h0, .inr (0, [.ref r0_0, .ref r0_1, .ref r0_2, .int (-1), .int v0_4]))] H := hP
  have hD : va_D A [(h0, .inr (0, [.ref r0_0, .ref r0_1, .ref r0_2, .int (-1), .int v0_4]))] := hD
  refine lv_aload_n hx hb dX0_forget_5 rfl (lv_at hl 0 rfl) ?_
  refine lv_iconst (v := (-1)) hx hb dX0_forget_6 (by decide +kernel) ?_
  refine va_put (D := (dC, dI)) (ci := 0) (v := .int (-1)) (ty := .int) (C := RX0) (T := TX0) (N := 5) hx hb hts zn_X0_forget_X0 tyX0 tyX0_ok nmX0 hown hK hP hD hS 0 rfl rfl 4 (by decide) (hts (.fieldLink RX0 33 "ShortEnough$CertificateReader" "reason" "I") zw_X0_forget_333) (fun _ h9 => h9) rfl (by decide +kernel) rfl rfl (Nat.le_of_ble_eq_true rfl) dX0_forget_7 (fun H locs hP hD hS => ?_)
  have hP : va_P (dC, dI) vwCl [(h0, .inr (0, [.ref r0_0, .ref r0_1, .ref r0_2, .int (-1), .int (-1)]))] H := hP
  have hD : va_D A [(h0, .inr (0, [.ref r0_0, .ref r0_1, .ref r0_2, .int (-1), .int (-1)]))] := hD
  have hP9 := hP.sub (ws' := [(h0, .inr (0, [.ref r0_0, .ref r0_1, .ref r0_2, .int (-1), .int (-1)]))]) [0] rfl
  have hD9 := hD.sub (ws' := [(h0, .inr (0, [.ref r0_0, .ref r0_1, .ref r0_2, .int (-1), .int (-1)]))]) [0] (by decide) rfl
  have hK9 := hK.sub (tys' := []) [] rfl
  rw [← hQ]
  exact W.vret hx hb hr (fun t ht hW => ⟨⟨((fun k => ([(-1), (-1)] : List Int32).getD k 0), (fun k => ([] : List (Nat → Int32)).getD k (fun _ => 0)), (fun k => ([] : List (Nat → Int64)).getD k (fun _ => 0))), rfl, trivial, by rw [ht]; exact hP9, va_K.moved hW.alike hK9, hD9⟩, hS.F ht⟩) hS.2.2 dX0_forget_10
set_option maxHeartbeats 4000000 in
set_option maxRecDepth 100000 in
theorem zs_X11_copyChoice (l : Launch) (dC : Nat → ClassId) (dI : Nat → Nat → Nat) (h0 : Nat) (h1 : Nat) (k0 : Nat) (f0 : Nat → Int32) (k1 : Nat) (f1 : Nat → Int32)  (sz : Nat) : Met l yX11_copyChoice wsX11_copyChoice ({ frames := 0, cells := 0, slots := 0, locals := 0 }) (va_Pc [.ref h0, .ref h1] (fun U => U.heap.size = sz ∧ va_P (dC, dI) vwCl [(h0, .inl (k0, 14, .inl f0)), (h1, .inl (k1, 14, .inl f1))] U.heap ∧ va_K (dC, dI) vwCl [(k0, .int), (k1, .int)] U ∧ va_D (fun _ => True) [(h0, .inl (k0, 14, .inl f0)), (h1, .inl (k1, 14, .inl f1))])) (va_Qv (fun (u : zV) => True) (fun u t => va_P (dC, dI) vwCl [(h0, .inl (k0, 14, .inl f0)), (h1, .inl (k1, 14, .inl (u.2.1 0)))] t.heap ∧ va_K (dC, dI) vwCl [(k0, .int), (k1, .int)] t ∧ va_D (va_A [(h0, .inl (k0, 14, .inl f0)), (h1, .inl (k1, 14, .inl f1))] sz) [(h0, .inl (k0, 14, .inl f0)), (h1, .inl (k1, 14, .inl (u.2.1 0)))]) (va_A [(h0, .inl (k0, 14, .inl f0)), (h1, .inl (k1, 14, .inl f1))] sz)) 0 0 (va_A [(h0, .inl (k0, 14, .inl f0)), (h1, .inl (k1, 14, .inl f1))] sz) := by
  refine Met.ofW (cc := cX11_copyChoice) (maxL := 3) (ret := none) (by decide +kernel) rfl ?_
  intro p e s m args below meth c s₁ B hml hv
  obtain ⟨rfl, hsz, hP, hK, hD0⟩ := hv
  have hx := B.exec
  have hb := B.bytes
  have hr := B.returns
  have hts := atoms_spec (ws := wsX11_copyChoice) B.pre
  have hown : s.vm.findClass RX11 = some m.cls := findClass_of_methodNamed B.named
  have hlocks := B.notSynchronized
  subst hsz
  have hD := hD0.self (sz := s.heap.size)
  generalize hAe : va_A [(h0, .inl (k0, 14, .inl f0)), (h1, .inl (k1, 14, .inl f1))] s.heap.size = A at hD ⊢
  have hA : ∀ q : Nat, s.heap.size ≤ q → A q := fun q h => by rw [← hAe]; exact Or.inr h
  have hS : va_S A s.heap s.heap [] := va_S.rf
  have hP : va_P (dC, dI) vwCl [(h0, .inl (k0, 14, .inl f0)), (h1, .inl (k1, 14, .inl f1))] s.heap := hP
  have hl := lv_entry ([.ref h0, .ref h1]) (n := 3) (Nat.le_of_ble_eq_true rfl)
  rw [lg_entry_eq]
  generalize (lg_sl ([.ref h0, .ref h1]) ++ List.replicate (3 - (lg_sl ([.ref h0, .ref h1])).length) Slot.unset).toArray = ls at hl ⊢
  have hl : lv_has ls 3 [(0, .ref h0), (1, .ref h1)] := hl
  generalize hQ : MQ below (va_Qv (fun (u : zV) => True) (fun u t => va_P (dC, dI) vwCl [(h0, .inl (k0, 14, .inl f0)), (h1, .inl (k1, 14, .inl (u.2.1 0)))] t.heap ∧ va_K (dC, dI) vwCl [(k0, .int), (k1, .int)] t ∧ va_D A [(h0, .inl (k0, 14, .inl f0)), (h1, .inl (k1, 14, .inl (u.2.1 0)))]) A) ([.ref h0, .ref h1] : List Value).toArray s 0 0 A = Q
  refine lv_iconst (v := 0) hx hb dX11_copyChoice_0 (by decide +kernel) ?_
  refine lv_istore_n (lv' := [(2, .int 0), (0, .ref h0), (1, .ref h1)]) hx hb dX11_copyChoice_1 rfl hl (by decide) rfl (fun ls hl => ?_)
  have lp2 : ∀ (n : Nat) (g2_h1 : Nat → Int32) (y2_2 : Int32) (H : Heap) (locs : List Loc) (ls : Array Slot), (0 : Int) ≤ y2_2.toInt + (0) → (y2_2.toInt : Int) ≤ 0 + (14) → 15 - y2_2.toInt < n → va_P (dC, dI) vwCl [(h0, .inl (k0, 14, .inl f0)), (h1, .inl (k1, 14, .inl g2_h1))] H → va_D A [(h0, .inl (k0, 14, .inl f0)), (h1, .inl (k1, 14, .inl g2_h1))] → va_S A s.heap H locs → lv_has ls 3 [(2, .int y2_2), (0, .ref h0), (1, .ref h1)] → W p l e (headSpec wsX11_copyChoice ({ frames := 0, cells := 0, slots := 0, locals := 0 })).room s m ([.ref h0, .ref h1] : List Value).toArray below meth c H locs 0 0 Q (F0 m 2 ls []) := by
    intro n
    induction n with
    | zero =>
      intro g2_h1 y2_2 H locs ls hz2_0 hz2_1  hmeas hP hD hS hl
      exfalso; omega
    | succ n ih2 =>
      intro g2_h1 y2_2 H locs ls hz2_0 hz2_1  hmeas hP hD hS hl
      refine lv_iload_n hx hb dX11_copyChoice_2 rfl (lv_at hl 0 rfl) ?_
      refine lv_bipush (v := 14) hx hb dX11_copyChoice_3 (by decide +kernel) ?_
      refine lv_icmp_ge (tgt := 32) hx hb dX11_copyChoice_5 (by decide) (fun c_1 => ?_) (fun c_1 => ?_)
      · have oc_1 := zk_le (by decide +kernel : (14 : Int32).toInt = 14) rfl c_1
        have hP9 := hP.sub (ws' := [(h0, .inl (k0, 14, .inl f0)), (h1, .inl (k1, 14, .inl g2_h1))]) [0, 1] rfl
        have hD9 := hD.sub (ws' := [(h0, .inl (k0, 14, .inl f0)), (h1, .inl (k1, 14, .inl g2_h1))]) [0, 1] (by decide) rfl
        have hK9 := hK.sub (tys' := [(k0, .int), (k1, .int)]) [0, 1] rfl
        rw [← hQ]
        exact W.vret hx hb hr (fun t ht hW => ⟨⟨((fun k => ([] : List Int32).getD k 0), (fun k => ([g2_h1] : List (Nat → Int32)).getD k (fun _ => 0)), (fun k => ([] : List (Nat → Int64)).getD k (fun _ => 0))), rfl, trivial, by rw [ht]; exact hP9, va_K.moved hW.alike hK9, hD9⟩, hS.F ht⟩) hS.2.2 dX11_copyChoice_32
      have oc_1 := zk_nle (by decide +kernel : (14 : Int32).toInt = 14) rfl c_1
      refine lv_iload_n hx hb dX11_copyChoice_8 rfl (lv_at hl 0 rfl) ?_
      refine lv_aload_n hx hb dX11_copyChoice_9 rfl (lv_at hl 1 rfl) ?_
      refine va_alen (v := 14) hx hb hK hP 0 0 rfl rfl (show Int32.ofNat 14 = 14 by decide +kernel) dX11_copyChoice_10 ?_
      refine lv_icmp_ge (tgt := 32) hx hb dX11_copyChoice_11 (by decide) (fun c_2 => by exfalso; have oc_2 := zk_le (by decide +kernel : (14 : Int32).toInt = 14) rfl c_2; omega) (fun c_2 => ?_)
      have oc_2 := zk_nle (by decide +kernel : (14 : Int32).toInt = 14) rfl c_2
      refine lv_iload_n hx hb dX11_copyChoice_14 rfl (lv_at hl 0 rfl) ?_
      refine lv_aload_n hx hb dX11_copyChoice_15 rfl (lv_at hl 2 rfl) ?_
      refine va_alen (v := 14) hx hb hK hP 1 1 rfl rfl (show Int32.ofNat 14 = 14 by decide +kernel) dX11_copyChoice_16 ?_
      refine lv_icmp_ge (tgt := 32) hx hb dX11_copyChoice_17 (by decide) (fun c_3 => by exfalso; have oc_3 := zk_le (by decide +kernel : (14 : Int32).toInt = 14) rfl c_3; omega) (fun c_3 => ?_)
      have oc_3 := zk_nle (by decide +kernel : (14 : Int32).toInt = 14) rfl c_3
      refine lv_aload_n hx hb dX11_copyChoice_20 rfl (lv_at hl 2 rfl) ?_
      refine lv_iload_n hx hb dX11_copyChoice_21 rfl (lv_at hl 0 rfl) ?_
      refine lv_aload_n hx hb dX11_copyChoice_22 rfl (lv_at hl 1 rfl) ?_
      refine lv_iload_n hx hb dX11_copyChoice_23 rfl (lv_at hl 0 rfl) ?_
      refine va_iald hx hb hK hP 0 0 rfl rfl (vp_in_iff.mpr ⟨by omega, by omega⟩) dX11_copyChoice_24 ?_
      refine lv_topi (fun x_4 ex_4 => ?_)
      refine va_iast hx hb hK hP hD hS 1 1 rfl rfl (vp_in_iff.mpr ⟨by omega, by omega⟩) dX11_copyChoice_25 (fun H locs hP hD hS => ?_)
      obtain ⟨f_5, ef_5⟩ : ∃ g : Nat → Int32, g = upd g2_h1 (y2_2 : Int32).toNatClampNeg x_4 := ⟨_, rfl⟩
      have hP : va_P (dC, dI) vwCl [(h0, .inl (k0, 14, .inl f0)), (h1, .inl (k1, 14, .inl f_5))] H := by rw [ef_5]; exact hP
      have hD : va_D A [(h0, .inl (k0, 14, .inl f0)), (h1, .inl (k1, 14, .inl f_5))] := by rw [ef_5]; exact hD
      obtain ⟨x_6, ex_6⟩ : ∃ y : Int32, y = y2_2 + 1 := ⟨_, rfl⟩
      refine lv_iinc (v := x_6) (lv' := [(2, .int x_6), (0, .ref h0), (1, .ref h1)]) hx hb dX11_copyChoice_26 hl (k := 0) rfl (by rw [ex_6]; rfl) (by decide) rfl (fun ls hl => ?_)
      have hx_6 := zo_add ex_6 rfl (by decide +kernel : (1 : Int32).toInt = 1) (by omega)
      refine lv_goto (tgt := 2) hx hb dX11_copyChoice_29 (by decide) ?_
      exact ih2  f_5 x_6 H locs ls (by omega) (by omega)  (by omega) hP hD hS (lv_sub hl [0, 1, 2] rfl)
  have kk0 : (0 : Int32).toInt = 0 := (by decide +kernel)
  exact lp2 ((15 - (0 : Int32).toInt).toNat + 1) f1 0 s.heap [] ls (by omega) (by omega)  (by omega) hP hD hS (lv_sub hl [0, 1, 2] rfl)
set_option maxHeartbeats 4000000 in
set_option maxRecDepth 100000 in
theorem zs_X11_end (l : Launch) (dC : Nat → ClassId) (dI : Nat → Nat → Nat) (h0 : Nat) (p1 : Int32) (r0_0 : Nat) (v0_1 : Int32) (r0_2 : Nat) (r0_3 : Nat) (r0_4 : Nat) (r0_5 : Nat) (r0_6 : Nat) (r0_7 : Nat) (r0_8 : Nat) (r0_9 : Nat) (r0_10 : Nat) (r0_11 : Nat) (r0_12 : Nat) (r0_13 : Nat) (r0_14 : Nat) (v0_15 : Int32) (k1 : Nat) (f1 : Nat → Int32) (hq_v0_1 : (0 : Int) ≤ v0_1.toInt ∧ v0_1.toInt ≤ 1200) (sz : Nat) : Met l yX11_end wsX11_end ({ frames := 1, cells := 0, slots := 0, locals := 21 }) (va_Pc [.ref h0, .int p1] (fun U => U.heap.size = sz ∧ va_P (dC, dI) vwCl [(h0, .inr (11, [.ref r0_0, .int v0_1, .ref r0_2, .ref r0_3, .ref r0_4, .ref r0_5, .ref r0_6, .ref r0_7, .ref r0_8, .ref r0_9, .ref r0_10, .ref r0_11, .ref r0_12, .ref r0_13, .ref r0_14, .int v0_15])), (r0_2, .inl (k1, 5, .inl f1))] U.heap ∧ va_K (dC, dI) vwCl [(k1, .int)] U ∧ va_D (fun _ => True) [(h0, .inr (11, [.ref r0_0, .int v0_1, .ref r0_2, .ref r0_3, .ref r0_4, .ref r0_5, .ref r0_6, .ref r0_7, .ref r0_8, .ref r0_9, .ref r0_10, .ref r0_11, .ref r0_12, .ref r0_13, .ref r0_14, .int v0_15])), (r0_2, .inl (k1, 5, .inl f1))])) (va_Qi (fun (r : Int32) (u : zV) => ((0 : Int) ≤ r.toInt ∧ r.toInt ≤ 1) ∧ (r.toInt = 0 ∨ ((0 : Int) ≤ p1.toInt + (0))) ∧ ((0 : Int) ≤ (u.1 0).toInt ∧ (u.1 0).toInt ≤ 1200) ∧ True) (fun u t => va_P (dC, dI) vwCl [(h0, .inr (11, [.ref r0_0, .int (u.1 0), .ref r0_2, .ref r0_3, .ref r0_4, .ref r0_5, .ref r0_6, .ref r0_7, .ref r0_8, .ref r0_9, .ref r0_10, .ref r0_11, .ref r0_12, .ref r0_13, .ref r0_14, .int v0_15])), (r0_2, .inl (k1, 5, .inl (u.2.1 0)))] t.heap ∧ va_K (dC, dI) vwCl [(k1, .int)] t ∧ va_D (va_A [(h0, .inr (11, [.ref r0_0, .int v0_1, .ref r0_2, .ref r0_3, .ref r0_4, .ref r0_5, .ref r0_6, .ref r0_7, .ref r0_8, .ref r0_9, .ref r0_10, .ref r0_11, .ref r0_12, .ref r0_13, .ref r0_14, .int v0_15])), (r0_2, .inl (k1, 5, .inl f1))] sz) [(h0, .inr (11, [.ref r0_0, .int (u.1 0), .ref r0_2, .ref r0_3, .ref r0_4, .ref r0_5, .ref r0_6, .ref r0_7, .ref r0_8, .ref r0_9, .ref r0_10, .ref r0_11, .ref r0_12, .ref r0_13, .ref r0_14, .int v0_15])), (r0_2, .inl (k1, 5, .inl (u.2.1 0)))]) (va_A [(h0, .inr (11, [.ref r0_0, .int v0_1, .ref r0_2, .ref r0_3, .ref r0_4, .ref r0_5, .ref r0_6, .ref r0_7, .ref r0_8, .ref r0_9, .ref r0_10, .ref r0_11, .ref r0_12, .ref r0_13, .ref r0_14, .int v0_15])), (r0_2, .inl (k1, 5, .inl f1))] sz)) 0 0 (va_A [(h0, .inr (11, [.ref r0_0, .int v0_1, .ref r0_2, .ref r0_3, .ref r0_4, .ref r0_5, .ref r0_6, .ref r0_7, .ref r0_8, .ref r0_9, .ref r0_10, .ref r0_11, .ref r0_12, .ref r0_13, .ref r0_14, .int v0_15])), (r0_2, .inl (k1, 5, .inl f1))] sz) := by
  refine Met.ofW (cc := cX11_end) (maxL := 2) (ret := (some .boolean)) (by decide +kernel) rfl ?_
  intro p e s m args below meth c s₁ B hml hv
  obtain ⟨rfl, hsz, hP, hK, hD0⟩ := hv
  have hx := B.exec
  have hb := B.bytes
  have hr := B.returns
  have hts := atoms_spec (ws := wsX11_end) B.pre
  have hown : s.vm.findClass RX11 = some m.cls := findClass_of_methodNamed B.named
  have hlocks := B.notSynchronized
  subst hsz
  have hD := hD0.self (sz := s.heap.size)
  generalize hAe : va_A [(h0, .inr (11, [.ref r0_0, .int v0_1, .ref r0_2, .ref r0_3, .ref r0_4, .ref r0_5, .ref r0_6, .ref r0_7, .ref r0_8, .ref r0_9, .ref r0_10, .ref r0_11, .ref r0_12, .ref r0_13, .ref r0_14, .int v0_15])), (r0_2, .inl (k1, 5, .inl f1))] s.heap.size = A at hD ⊢
  have hA : ∀ q : Nat, s.heap.size ≤ q → A q := fun q h => by rw [← hAe]; exact Or.inr h
  have hS : va_S A s.heap s.heap [] := va_S.rf
  have hP : va_P (dC, dI) vwCl [(h0, .inr (11, [.ref r0_0, .int v0_1, .ref r0_2, .ref r0_3, .ref r0_4, .ref r0_5, .ref r0_6, .ref r0_7, .ref r0_8, .ref r0_9, .ref r0_10, .ref r0_11, .ref r0_12, .ref r0_13, .ref r0_14, .int v0_15])), (r0_2, .inl (k1, 5, .inl f1))] s.heap := hP
  have hl := lv_entry ([.ref h0, .int p1]) (n := 2) (Nat.le_of_ble_eq_true rfl)
  rw [lg_entry_eq]
  generalize (lg_sl ([.ref h0, .int p1]) ++ List.replicate (2 - (lg_sl ([.ref h0, .int p1])).length) Slot.unset).toArray = ls at hl ⊢
  have hl : lv_has ls 2 [(0, .ref h0), (1, .int p1)] := hl
  generalize hQ : MQ below (va_Qi (fun (r : Int32) (u : zV) => ((0 : Int) ≤ r.toInt ∧ r.toInt ≤ 1) ∧ (r.toInt = 0 ∨ ((0 : Int) ≤ p1.toInt + (0))) ∧ ((0 : Int) ≤ (u.1 0).toInt ∧ (u.1 0).toInt ≤ 1200) ∧ True) (fun u t => va_P (dC, dI) vwCl [(h0, .inr (11, [.ref r0_0, .int (u.1 0), .ref r0_2, .ref r0_3, .ref r0_4, .ref r0_5, .ref r0_6, .ref r0_7, .ref r0_8, .ref r0_9, .ref r0_10, .ref r0_11, .ref r0_12, .ref r0_13, .ref r0_14, .int v0_15])), (r0_2, .inl (k1, 5, .inl (u.2.1 0)))] t.heap ∧ va_K (dC, dI) vwCl [(k1, .int)] t ∧ va_D A [(h0, .inr (11, [.ref r0_0, .int (u.1 0), .ref r0_2, .ref r0_3, .ref r0_4, .ref r0_5, .ref r0_6, .ref r0_7, .ref r0_8, .ref r0_9, .ref r0_10, .ref r0_11, .ref r0_12, .ref r0_13, .ref r0_14, .int v0_15])), (r0_2, .inl (k1, 5, .inl (u.2.1 0)))]) A) ([.ref h0, .int p1] : List Value).toArray s 0 0 A = Q
  refine lv_iload_n hx hb dX11_end_0 rfl (lv_at hl 1 rfl) ?_
  refine lv_if_lt (tgt := 12) hx hb dX11_end_1 (by decide) (fun c_1 => ?_) (fun c_1 => ?_)
  · have oc_1 := zk_lt rfl (by decide +kernel : (0 : Int32).toInt = 0) c_1
    refine lv_aload_n hx hb dX11_end_12 rfl (lv_at hl 0 rfl) ?_
    refine lv_iconst (v := 0) hx hb dX11_end_13 (by decide +kernel) ?_
    have hPc := hP.sub (ws' := [(h0, .inr (11, [.ref r0_0, .int v0_1, .ref r0_2, .ref r0_3, .ref r0_4, .ref r0_5, .ref r0_6, .ref r0_7, .ref r0_8, .ref r0_9, .ref r0_10, .ref r0_11, .ref r0_12, .ref r0_13, .ref r0_14, .int v0_15])), (r0_2, .inl (k1, 5, .inl f1))]) [0, 1] rfl
    have hDc := hD.sub (ws' := [(h0, .inr (11, [.ref r0_0, .int v0_1, .ref r0_2, .ref r0_3, .ref r0_4, .ref r0_5, .ref r0_6, .ref r0_7, .ref r0_8, .ref r0_9, .ref r0_10, .ref r0_11, .ref r0_12, .ref r0_13, .ref r0_14, .int v0_15])), (r0_2, .inl (k1, 5, .inl f1))]) [0, 1] (by decide) rfl
    have hKc := hK.sub (tys' := [(k1, .int)]) [0] rfl
    have hFc := va_free (wc := [(h0, .inr (11, [.ref r0_0, .int v0_1, .ref r0_2, .ref r0_3, .ref r0_4, .ref r0_5, .ref r0_6, .ref r0_7, .ref r0_8, .ref r0_9, .ref r0_10, .ref r0_11, .ref r0_12, .ref r0_13, .ref r0_14, .int v0_15])), (r0_2, .inl (k1, 5, .inl f1))]) hD hS hA [0, 1] rfl
    refine va_calli (va_runV (As := [.int 0]) (rest := []) ⟨hx, hb, hml, hown, hts⟩ (zs_X11_refuse l dC dI h0 0 r0_0 v0_1 r0_2 r0_3 r0_4 r0_5 r0_6 r0_7 r0_8 r0_9 r0_10 r0_11 r0_12 r0_13 r0_14 v0_15 k1 f1 (by omega) s.heap.size) (cwV 1 hts gX11_end_X11_refuse rfl rfl rfl (by decide +kernel) ⟨Nat.le_of_ble_eq_true rfl, Nat.le_of_ble_eq_true rfl⟩) ⟨fun a U g mk q => by obtain ⟨q0, q1, qP, qK, qD⟩ := q; exact ⟨q0, q1, qP, va_K.moved (u := U) (U := U.calling g mk a) (Vm.Alike.refl U.vm) qK, qD⟩, va_recv hKc hPc (ci := 11) (q0 := 0) rfl rfl, fun U hU hW => ⟨rfl, by rw [hU], by rw [hU]; exact hPc, va_K.moved hW.alike hKc, hDc.weaken (fun _ _ _ _ => trivial)⟩⟩ rfl rfl hl.1 rfl (lv_room (Nat.le_of_ble_eq_true rfl)) dX11_end_14 ⟨Nat.le_of_ble_eq_true rfl, Nat.le_of_ble_eq_true rfl⟩) hS (fun q _ h => hFc q h) hFc (fun r_2 u_3 t H1 locs ht hvm hw_4 hB hz1 hk1 hS => ?_)
    obtain ⟨hP1, hK1, hD1⟩ := hB
    rw [ht] at hP1
    have hK1 := va_K.moved hvm.symm hK1
    obtain ⟨hP, hD⟩ := va_join (wr := []) (w1 := [(h0, .inr (11, [.ref r0_0, .int v0_1, .ref r0_2, .ref r0_3, .ref r0_4, .ref r0_5, .ref r0_6, .ref r0_7, .ref r0_8, .ref r0_9, .ref r0_10, .ref r0_11, .ref r0_12, .ref r0_13, .ref r0_14, .int v0_15])), (r0_2, .inl (k1, 5, .inl (u_3.2.1 0)))]) hP hD [0, 1] [] rfl rfl (by decide) (by decide) hk1 hFc hP1 hD1
    have hK := hK
    generalize H1 = H at hP hS ⊢
    have hP := hP.sub (ws' := [(h0, .inr (11, [.ref r0_0, .int v0_1, .ref r0_2, .ref r0_3, .ref r0_4, .ref r0_5, .ref r0_6, .ref r0_7, .ref r0_8, .ref r0_9, .ref r0_10, .ref r0_11, .ref r0_12, .ref r0_13, .ref r0_14, .int v0_15])), (r0_2, .inl (k1, 5, .inl (u_3.2.1 0)))]) [0, 1] rfl
    have hD := hD.sub (ws' := [(h0, .inr (11, [.ref r0_0, .int v0_1, .ref r0_2, .ref r0_3, .ref r0_4, .ref r0_5, .ref r0_6, .ref r0_7, .ref r0_8, .ref r0_9, .ref r0_10, .ref r0_11, .ref r0_12, .ref r0_13, .ref r0_14, .int v0_15])), (r0_2, .inl (k1, 5, .inl (u_3.2.1 0)))]) [0, 1] (by decide) rfl
    have hP : va_P (dC, dI) vwCl [(h0, .inr (11, [.ref r0_0, .int v0_1, .ref r0_2, .ref r0_3, .ref r0_4, .ref r0_5, .ref r0_6, .ref r0_7, .ref r0_8, .ref r0_9, .ref r0_10, .ref r0_11, .ref r0_12, .ref r0_13, .ref r0_14, .int v0_15])), (r0_2, .inl (k1, 5, .inl (u_3.2.1 0)))] H := hP
    have hD : va_D A [(h0, .inr (11, [.ref r0_0, .int v0_1, .ref r0_2, .ref r0_3, .ref r0_4, .ref r0_5, .ref r0_6, .ref r0_7, .ref r0_8, .ref r0_9, .ref r0_10, .ref r0_11, .ref r0_12, .ref r0_13, .ref r0_14, .int v0_15])), (r0_2, .inl (k1, 5, .inl (u_3.2.1 0)))] := hD
    obtain ⟨hr_2, -⟩ := hw_4
    refine lv_pop hx hb dX11_end_17 rfl ?_
    refine lv_iconst (v := 0) hx hb dX11_end_18 (by decide +kernel) ?_
    have hP9 := hP.sub (ws' := [(h0, .inr (11, [.ref r0_0, .int v0_1, .ref r0_2, .ref r0_3, .ref r0_4, .ref r0_5, .ref r0_6, .ref r0_7, .ref r0_8, .ref r0_9, .ref r0_10, .ref r0_11, .ref r0_12, .ref r0_13, .ref r0_14, .int v0_15])), (r0_2, .inl (k1, 5, .inl (u_3.2.1 0)))]) [0, 1] rfl
    have hD9 := hD.sub (ws' := [(h0, .inr (11, [.ref r0_0, .int v0_1, .ref r0_2, .ref r0_3, .ref r0_4, .ref r0_5, .ref r0_6, .ref r0_7, .ref r0_8, .ref r0_9, .ref r0_10, .ref r0_11, .ref r0_12, .ref r0_13, .ref r0_14, .int v0_15])), (r0_2, .inl (k1, 5, .inl (u_3.2.1 0)))]) [0, 1] (by decide) rfl
    have hK9 := hK.sub (tys' := [(k1, .int)]) [0] rfl
    rw [← hQ]
    exact W.zret (v := 0) hx hb hr rfl (fun t ht hW => ⟨⟨0, ((fun k => ([v0_1] : List Int32).getD k 0), (fun k => ([(u_3.2.1 0)] : List (Nat → Int32)).getD k (fun _ => 0)), (fun k => ([] : List (Nat → Int64)).getD k (fun _ => 0))), rfl, ⟨(show (0 : Int) ≤ (0 : Int32).toInt ∧ (0 : Int32).toInt ≤ 1 by decide +kernel), (show ((0 : Int32).toInt = 0 ∨ ((0 : Int) ≤ p1.toInt + (0))) by exact Or.inl (by decide +kernel)), (show (0 : Int) ≤ (v0_1 : Int32).toInt ∧ (v0_1 : Int32).toInt ≤ 1200 by omega), trivial⟩, by rw [ht]; exact hP9, va_K.moved hW.alike hK9, hD9⟩, hS.F ht⟩) hS.2.2 dX11_end_19
  have oc_1 := zk_nlt rfl (by decide +kernel : (0 : Int32).toInt = 0) c_1
  refine lv_iload_n hx hb dX11_end_4 rfl (lv_at hl 1 rfl) ?_
  refine lv_aload_n hx hb dX11_end_5 rfl (lv_at hl 0 rfl) ?_
  refine va_get (D := (dC, dI)) (ci := 11) (v := .int v0_1) (C := RX11) (T := TX11) (N := 16) hx hb hts zn_X11_end_X11 hown hK hP 0 rfl rfl 1 (by decide) (hts (.fieldLink RX11 89 "ShortEnough" "tapeLength" "I") zw_X11_end_335) (fun _ h9 => h9) rfl dX11_end_6 ?_
  refine lv_icmp_le (tgt := 20) hx hb dX11_end_9 (by decide) (fun c_5 => ?_) (fun c_5 => ?_)
  · have oc_5 := zk_le rfl rfl c_5
    refine lv_aload_n hx hb dX11_end_20 rfl (lv_at hl 0 rfl) ?_
    refine lv_iload_n hx hb dX11_end_21 rfl (lv_at hl 1 rfl) ?_
    refine va_put (D := (dC, dI)) (ci := 11) (v := .int p1) (ty := .int) (C := RX11) (T := TX11) (N := 16) hx hb hts zn_X11_end_X11 tyX11 tyX11_ok nmX11 hown hK hP hD hS 0 rfl rfl 1 (by decide) (hts (.fieldLink RX11 89 "ShortEnough" "tapeLength" "I") zw_X11_end_335) (fun _ h9 => h9) rfl (by decide +kernel) rfl rfl (Nat.le_of_ble_eq_true rfl) dX11_end_22 (fun H locs hP hD hS => ?_)
    have hP : va_P (dC, dI) vwCl [(h0, .inr (11, [.ref r0_0, .int p1, .ref r0_2, .ref r0_3, .ref r0_4, .ref r0_5, .ref r0_6, .ref r0_7, .ref r0_8, .ref r0_9, .ref r0_10, .ref r0_11, .ref r0_12, .ref r0_13, .ref r0_14, .int v0_15])), (r0_2, .inl (k1, 5, .inl f1))] H := hP
    have hD : va_D A [(h0, .inr (11, [.ref r0_0, .int p1, .ref r0_2, .ref r0_3, .ref r0_4, .ref r0_5, .ref r0_6, .ref r0_7, .ref r0_8, .ref r0_9, .ref r0_10, .ref r0_11, .ref r0_12, .ref r0_13, .ref r0_14, .int v0_15])), (r0_2, .inl (k1, 5, .inl f1))] := hD
    refine lv_iconst (v := 1) hx hb dX11_end_25 (by decide +kernel) ?_
    have hP9 := hP.sub (ws' := [(h0, .inr (11, [.ref r0_0, .int p1, .ref r0_2, .ref r0_3, .ref r0_4, .ref r0_5, .ref r0_6, .ref r0_7, .ref r0_8, .ref r0_9, .ref r0_10, .ref r0_11, .ref r0_12, .ref r0_13, .ref r0_14, .int v0_15])), (r0_2, .inl (k1, 5, .inl f1))]) [0, 1] rfl
    have hD9 := hD.sub (ws' := [(h0, .inr (11, [.ref r0_0, .int p1, .ref r0_2, .ref r0_3, .ref r0_4, .ref r0_5, .ref r0_6, .ref r0_7, .ref r0_8, .ref r0_9, .ref r0_10, .ref r0_11, .ref r0_12, .ref r0_13, .ref r0_14, .int v0_15])), (r0_2, .inl (k1, 5, .inl f1))]) [0, 1] (by decide) rfl
    have hK9 := hK.sub (tys' := [(k1, .int)]) [0] rfl
    rw [← hQ]
    exact W.zret (v := 1) hx hb hr rfl (fun t ht hW => ⟨⟨1, ((fun k => ([p1] : List Int32).getD k 0), (fun k => ([f1] : List (Nat → Int32)).getD k (fun _ => 0)), (fun k => ([] : List (Nat → Int64)).getD k (fun _ => 0))), rfl, ⟨(show (0 : Int) ≤ (1 : Int32).toInt ∧ (1 : Int32).toInt ≤ 1 by decide +kernel), (show ((1 : Int32).toInt = 0 ∨ ((0 : Int) ≤ p1.toInt + (0))) by right; omega), (show (0 : Int) ≤ (p1 : Int32).toInt ∧ (p1 : Int32).toInt ≤ 1200 by omega), trivial⟩, by rw [ht]; exact hP9, va_K.moved hW.alike hK9, hD9⟩, hS.F ht⟩) hS.2.2 dX11_end_26
  have oc_5 := zk_nle rfl rfl c_5
  refine lv_aload_n hx hb dX11_end_12 rfl (lv_at hl 0 rfl) ?_
  refine lv_iconst (v := 0) hx hb dX11_end_13 (by decide +kernel) ?_
  have hPc := hP.sub (ws' := [(h0, .inr (11, [.ref r0_0, .int v0_1, .ref r0_2, .ref r0_3, .ref r0_4, .ref r0_5, .ref r0_6, .ref r0_7, .ref r0_8, .ref r0_9, .ref r0_10, .ref r0_11, .ref r0_12, .ref r0_13, .ref r0_14, .int v0_15])), (r0_2, .inl (k1, 5, .inl f1))]) [0, 1] rfl
  have hDc := hD.sub (ws' := [(h0, .inr (11, [.ref r0_0, .int v0_1, .ref r0_2, .ref r0_3, .ref r0_4, .ref r0_5, .ref r0_6, .ref r0_7, .ref r0_8, .ref r0_9, .ref r0_10, .ref r0_11, .ref r0_12, .ref r0_13, .ref r0_14, .int v0_15])), (r0_2, .inl (k1, 5, .inl f1))]) [0, 1] (by decide) rfl
  have hKc := hK.sub (tys' := [(k1, .int)]) [0] rfl
  have hFc := va_free (wc := [(h0, .inr (11, [.ref r0_0, .int v0_1, .ref r0_2, .ref r0_3, .ref r0_4, .ref r0_5, .ref r0_6, .ref r0_7, .ref r0_8, .ref r0_9, .ref r0_10, .ref r0_11, .ref r0_12, .ref r0_13, .ref r0_14, .int v0_15])), (r0_2, .inl (k1, 5, .inl f1))]) hD hS hA [0, 1] rfl
  refine va_calli (va_runV (As := [.int 0]) (rest := []) ⟨hx, hb, hml, hown, hts⟩ (zs_X11_refuse l dC dI h0 0 r0_0 v0_1 r0_2 r0_3 r0_4 r0_5 r0_6 r0_7 r0_8 r0_9 r0_10 r0_11 r0_12 r0_13 r0_14 v0_15 k1 f1 (by omega) s.heap.size) (cwV 1 hts gX11_end_X11_refuse rfl rfl rfl (by decide +kernel) ⟨Nat.le_of_ble_eq_true rfl, Nat.le_of_ble_eq_true rfl⟩) ⟨fun a U g mk q => by obtain ⟨q0, q1, qP, qK, qD⟩ := q; exact ⟨q0, q1, qP, va_K.moved (u := U) (U := U.calling g mk a) (Vm.Alike.refl U.vm) qK, qD⟩, va_recv hKc hPc (ci := 11) (q0 := 0) rfl rfl, fun U hU hW => ⟨rfl, by rw [hU], by rw [hU]; exact hPc, va_K.moved hW.alike hKc, hDc.weaken (fun _ _ _ _ => trivial)⟩⟩ rfl rfl hl.1 rfl (lv_room (Nat.le_of_ble_eq_true rfl)) dX11_end_14 ⟨Nat.le_of_ble_eq_true rfl, Nat.le_of_ble_eq_true rfl⟩) hS (fun q _ h => hFc q h) hFc (fun r_6 u_7 t H1 locs ht hvm hw_8 hB hz1 hk1 hS => ?_)
  obtain ⟨hP1, hK1, hD1⟩ := hB
  rw [ht] at hP1
  have hK1 := va_K.moved hvm.symm hK1
  obtain ⟨hP, hD⟩ := va_join (wr := []) (w1 := [(h0, .inr (11, [.ref r0_0, .int v0_1, .ref r0_2, .ref r0_3, .ref r0_4, .ref r0_5, .ref r0_6, .ref r0_7, .ref r0_8, .ref r0_9, .ref r0_10, .ref r0_11, .ref r0_12, .ref r0_13, .ref r0_14, .int v0_15])), (r0_2, .inl (k1, 5, .inl (u_7.2.1 0)))]) hP hD [0, 1] [] rfl rfl (by decide) (by decide) hk1 hFc hP1 hD1
  have hK := hK
  generalize H1 = H at hP hS ⊢
  have hP := hP.sub (ws' := [(h0, .inr (11, [.ref r0_0, .int v0_1, .ref r0_2, .ref r0_3, .ref r0_4, .ref r0_5, .ref r0_6, .ref r0_7, .ref r0_8, .ref r0_9, .ref r0_10, .ref r0_11, .ref r0_12, .ref r0_13, .ref r0_14, .int v0_15])), (r0_2, .inl (k1, 5, .inl (u_7.2.1 0)))]) [0, 1] rfl
  have hD := hD.sub (ws' := [(h0, .inr (11, [.ref r0_0, .int v0_1, .ref r0_2, .ref r0_3, .ref r0_4, .ref r0_5, .ref r0_6, .ref r0_7, .ref r0_8, .ref r0_9, .ref r0_10, .ref r0_11, .ref r0_12, .ref r0_13, .ref r0_14, .int v0_15])), (r0_2, .inl (k1, 5, .inl (u_7.2.1 0)))]) [0, 1] (by decide) rfl
  have hP : va_P (dC, dI) vwCl [(h0, .inr (11, [.ref r0_0, .int v0_1, .ref r0_2, .ref r0_3, .ref r0_4, .ref r0_5, .ref r0_6, .ref r0_7, .ref r0_8, .ref r0_9, .ref r0_10, .ref r0_11, .ref r0_12, .ref r0_13, .ref r0_14, .int v0_15])), (r0_2, .inl (k1, 5, .inl (u_7.2.1 0)))] H := hP
  have hD : va_D A [(h0, .inr (11, [.ref r0_0, .int v0_1, .ref r0_2, .ref r0_3, .ref r0_4, .ref r0_5, .ref r0_6, .ref r0_7, .ref r0_8, .ref r0_9, .ref r0_10, .ref r0_11, .ref r0_12, .ref r0_13, .ref r0_14, .int v0_15])), (r0_2, .inl (k1, 5, .inl (u_7.2.1 0)))] := hD
  obtain ⟨hr_6, -⟩ := hw_8
  refine lv_pop hx hb dX11_end_17 rfl ?_
  refine lv_iconst (v := 0) hx hb dX11_end_18 (by decide +kernel) ?_
  have hP9 := hP.sub (ws' := [(h0, .inr (11, [.ref r0_0, .int v0_1, .ref r0_2, .ref r0_3, .ref r0_4, .ref r0_5, .ref r0_6, .ref r0_7, .ref r0_8, .ref r0_9, .ref r0_10, .ref r0_11, .ref r0_12, .ref r0_13, .ref r0_14, .int v0_15])), (r0_2, .inl (k1, 5, .inl (u_7.2.1 0)))]) [0, 1] rfl
  have hD9 := hD.sub (ws' := [(h0, .inr (11, [.ref r0_0, .int v0_1, .ref r0_2, .ref r0_3, .ref r0_4, .ref r0_5, .ref r0_6, .ref r0_7, .ref r0_8, .ref r0_9, .ref r0_10, .ref r0_11, .ref r0_12, .ref r0_13, .ref r0_14, .int v0_15])), (r0_2, .inl (k1, 5, .inl (u_7.2.1 0)))]) [0, 1] (by decide) rfl
  have hK9 := hK.sub (tys' := [(k1, .int)]) [0] rfl
  rw [← hQ]
  exact W.zret (v := 0) hx hb hr rfl (fun t ht hW => ⟨⟨0, ((fun k => ([v0_1] : List Int32).getD k 0), (fun k => ([(u_7.2.1 0)] : List (Nat → Int32)).getD k (fun _ => 0)), (fun k => ([] : List (Nat → Int64)).getD k (fun _ => 0))), rfl, ⟨(show (0 : Int) ≤ (0 : Int32).toInt ∧ (0 : Int32).toInt ≤ 1 by decide +kernel), (show ((0 : Int32).toInt = 0 ∨ ((0 : Int) ≤ p1.toInt + (0))) by exact Or.inl (by decide +kernel)), (show (0 : Int) ≤ (v0_1 : Int32).toInt ∧ (v0_1 : Int32).toInt ≤ 1200 by omega), trivial⟩, by rw [ht]; exact hP9, va_K.moved hW.alike hK9, hD9⟩, hS.F ht⟩) hS.2.2 dX11_end_19
set_option maxHeartbeats 4000000 in
set_option maxRecDepth 100000 in
theorem zs_X11_fault (l : Launch) (dC : Nat → ClassId) (dI : Nat → Nat → Nat) (h0 : Nat) (p1 : Int32) (r0_0 : Nat) (v0_1 : Int32) (r0_2 : Nat) (r0_3 : Nat) (r0_4 : Nat) (r0_5 : Nat) (r0_6 : Nat) (r0_7 : Nat) (r0_8 : Nat) (r0_9 : Nat) (r0_10 : Nat) (r0_11 : Nat) (r0_12 : Nat) (r0_13 : Nat) (r0_14 : Nat) (v0_15 : Int32) (r1_0 : Nat) (v1_1 : Int32) (v1_2 : Int32) (v1_3 : Int32) (hq_v0_1 : (0 : Int) ≤ v0_1.toInt ∧ v0_1.toInt ≤ 1200) (sz : Nat) : Met l yX11_fault wsX11_fault ({ frames := 0, cells := 0, slots := 0, locals := 0 }) (va_Pc [.ref h0, .int p1] (fun U => U.heap.size = sz ∧ va_P (dC, dI) vwCl [(h0, .inr (11, [.ref r0_0, .int v0_1, .ref r0_2, .ref r0_3, .ref r0_4, .ref r0_5, .ref r0_6, .ref r0_7, .ref r0_8, .ref r0_9, .ref r0_10, .ref r0_11, .ref r0_12, .ref r0_13, .ref r0_14, .int v0_15])), (r0_3, .inr (5, [.ref r1_0, .int v1_1, .int v1_2, .int v1_3]))] U.heap ∧ va_K (dC, dI) vwCl [] U ∧ va_D (fun _ => True) [(h0, .inr (11, [.ref r0_0, .int v0_1, .ref r0_2, .ref r0_3, .ref r0_4, .ref r0_5, .ref r0_6, .ref r0_7, .ref r0_8, .ref r0_9, .ref r0_10, .ref r0_11, .ref r0_12, .ref r0_13, .ref r0_14, .int v0_15])), (r0_3, .inr (5, [.ref r1_0, .int v1_1, .int v1_2, .int v1_3]))])) (va_Qi (fun (r : Int32) (u : zV) => (r.toInt = -1 ∨ ((0 : Int) ≤ p1.toInt + (0) ∧ (p1.toInt : Int) ≤ 0 + (1))) ∧ True) (fun u t => va_P (dC, dI) vwCl [(h0, .inr (11, [.ref r0_0, .int v0_1, .ref r0_2, .ref r0_3, .ref r0_4, .ref r0_5, .ref r0_6, .ref r0_7, .ref r0_8, .ref r0_9, .ref r0_10, .ref r0_11, .ref r0_12, .ref r0_13, .ref r0_14, .int v0_15])), (r0_3, .inr (5, [.ref r1_0, .int v1_1, .int v1_2, .int v1_3]))] t.heap ∧ va_K (dC, dI) vwCl [] t ∧ va_D (va_A [(h0, .inr (11, [.ref r0_0, .int v0_1, .ref r0_2, .ref r0_3, .ref r0_4, .ref r0_5, .ref r0_6, .ref r0_7, .ref r0_8, .ref r0_9, .ref r0_10, .ref r0_11, .ref r0_12, .ref r0_13, .ref r0_14, .int v0_15])), (r0_3, .inr (5, [.ref r1_0, .int v1_1, .int v1_2, .int v1_3]))] sz) [(h0, .inr (11, [.ref r0_0, .int v0_1, .ref r0_2, .ref r0_3, .ref r0_4, .ref r0_5, .ref r0_6, .ref r0_7, .ref r0_8, .ref r0_9, .ref r0_10, .ref r0_11, .ref r0_12, .ref r0_13, .ref r0_14, .int v0_15])), (r0_3, .inr (5, [.ref r1_0, .int v1_1, .int v1_2, .int v1_3]))]) (va_A [(h0, .inr (11, [.ref r0_0, .int v0_1, .ref r0_2, .ref r0_3, .ref r0_4, .ref r0_5, .ref r0_6, .ref r0_7, .ref r0_8, .ref r0_9, .ref r0_10, .ref r0_11, .ref r0_12, .ref r0_13, .ref r0_14, .int v0_15])), (r0_3, .inr (5, [.ref r1_0, .int v1_1, .int v1_2, .int v1_3]))] sz)) 0 0 (va_A [(h0, .inr (11, [.ref r0_0, .int v0_1, .ref r0_2, .ref r0_3, .ref r0_4, .ref r0_5, .ref r0_6, .ref r0_7, .ref r0_8, .ref r0_9, .ref r0_10, .ref r0_11, .ref r0_12, .ref r0_13, .ref r0_14, .int v0_15])), (r0_3, .inr (5, [.ref r1_0, .int v1_1, .int v1_2, .int v1_3]))] sz) := by
  refine Met.ofW (cc := cX11_fault) (maxL := 2) (ret := (some .int)) (by decide +kernel) rfl ?_
  intro p e s m args below meth c s₁ B hml hv
  obtain ⟨rfl, hsz, hP, hK, hD0⟩ := hv
  have hx := B.exec
  have hb := B.bytes
  have hr := B.returns
  have hts := atoms_spec (ws := wsX11_fault) B.pre
  have hown : s.vm.findClass RX11 = some m.cls := findClass_of_methodNamed B.named
  have hlocks := B.notSynchronized
  subst hsz
  have hD := hD0.self (sz := s.heap.size)
  generalize hAe : va_A [(h0, .inr (11, [.ref r0_0, .int v0_1, .ref r0_2, .ref r0_3, .ref r0_4, .ref r0_5, .ref r0_6, .ref r0_7, .ref r0_8, .ref r0_9, .ref r0_10, .ref r0_11, .ref r0_12, .ref r0_13, .ref r0_14, .int v0_15])), (r0_3, .inr (5, [.ref r1_0, .int v1_1, .int v1_2, .int v1_3]))] s.heap.size = A at hD ⊢
  have hA : ∀ q : Nat, s.heap.size ≤ q → A q := fun q h => by rw [← hAe]; exact Or.inr h
  have hS : va_S A s.heap s.heap [] := va_S.rf
  have hP : va_P (dC, dI) vwCl [(h0, .inr (11, [.ref r0_0, .int v0_1, .ref r0_2, .ref r0_3, .ref r0_4, .ref r0_5, .ref r0_6, .ref r0_7, .ref r0_8, .ref r0_9, .ref r0_10, .ref r0_11, .ref r0_12, .ref r0_13, .ref r0_14, .int v0_15])), (r0_3, .inr (5, [.ref r1_0, .int v1_1, .int v1_2, .int v1_3]))] s.heap := hP
  have hl := lv_entry ([.ref h0, .int p1]) (n := 2) (Nat.le_of_ble_eq_true rfl)
  rw [lg_entry_eq]
  generalize (lg_sl ([.ref h0, .int p1]) ++ List.replicate (2 - (lg_sl ([.ref h0, .int p1])).length) Slot.unset).toArray = ls at hl ⊢
  have hl : lv_has ls 2 [(0, .ref h0), (1, .int p1)] := hl
  generalize hQ : MQ below (va_Qi (fun (r : Int32) (u : zV) => (r.toInt = -1 ∨ ((0 : Int) ≤ p1.toInt + (0) ∧ (p1.toInt : Int) ≤ 0 + (1))) ∧ True) (fun u t => va_P (dC, dI) vwCl [(h0, .inr (11, [.ref r0_0, .int v0_1, .ref r0_2, .ref r0_3, .ref r0_4, .ref r0_5, .ref r0_6, .ref r0_7, .ref r0_8, .ref r0_9, .ref r0_10, .ref r0_11, .ref r0_12, .ref r0_13, .ref r0_14, .int v0_15])), (r0_3, .inr (5, [.ref r1_0, .int v1_1, .int v1_2, .int v1_3]))] t.heap ∧ va_K (dC, dI) vwCl [] t ∧ va_D A [(h0, .inr (11, [.ref r0_0, .int v0_1, .ref r0_2, .ref r0_3, .ref r0_4, .ref r0_5, .ref r0_6, .ref r0_7, .ref r0_8, .ref r0_9, .ref r0_10, .ref r0_11, .ref r0_12, .ref r0_13, .ref r0_14, .int v0_15])), (r0_3, .inr (5, [.ref r1_0, .int v1_1, .int v1_2, .int v1_3]))]) A) ([.ref h0, .int p1] : List Value).toArray s 0 0 A = Q
  refine lv_iload_n hx hb dX11_fault_0 rfl (lv_at hl 1 rfl) ?_
  refine lv_if_ne (tgt := 12) hx hb dX11_fault_1 (by decide) (fun c_1 => ?_) (fun c_1 => ?_)
  · have oc_1 := zk_ne rfl (by decide +kernel : (0 : Int32).toInt = 0) c_1
    refine lv_iload_n hx hb dX11_fault_12 rfl (lv_at hl 1 rfl) ?_
    refine lv_iconst (v := 1) hx hb dX11_fault_13 (by decide +kernel) ?_
    refine lv_icmp_ne (tgt := 27) hx hb dX11_fault_14 (by decide) (fun c_2 => ?_) (fun c_2 => ?_)
    · have oc_2 := zk_ne rfl (by decide +kernel : (1 : Int32).toInt = 1) c_2
      refine lv_iconst (v := (-1)) hx hb dX11_fault_27 (by decide +kernel) ?_
      have hP9 := hP.sub (ws' := [(h0, .inr (11, [.ref r0_0, .int v0_1, .ref r0_2, .ref r0_3, .ref r0_4, .ref r0_5, .ref r0_6, .ref r0_7, .ref r0_8, .ref r0_9, .ref r0_10, .ref r0_11, .ref r0_12, .ref r0_13, .ref r0_14, .int v0_15])), (r0_3, .inr (5, [.ref r1_0, .int v1_1, .int v1_2, .int v1_3]))]) [0, 1] rfl
      have hD9 := hD.sub (ws' := [(h0, .inr (11, [.ref r0_0, .int v0_1, .ref r0_2, .ref r0_3, .ref r0_4, .ref r0_5, .ref r0_6, .ref r0_7, .ref r0_8, .ref r0_9, .ref r0_10, .ref r0_11, .ref r0_12, .ref r0_13, .ref r0_14, .int v0_15])), (r0_3, .inr (5, [.ref r1_0, .int v1_1, .int v1_2, .int v1_3]))]) [0, 1] (by decide) rfl
      have hK9 := hK.sub (tys' := []) [] rfl
      rw [← hQ]
      exact W.iret (v := (-1)) hx hb hr (fun t ht hW => ⟨⟨(-1), ((fun k => ([] : List Int32).getD k 0), (fun k => ([] : List (Nat → Int32)).getD k (fun _ => 0)), (fun k => ([] : List (Nat → Int64)).getD k (fun _ => 0))), rfl, ⟨(show (((-1) : Int32).toInt = -1 ∨ ((0 : Int) ≤ p1.toInt + (0) ∧ (p1.toInt : Int) ≤ 0 + (1))) by exact Or.inl (by decide +kernel)), trivial⟩, by rw [ht]; exact hP9, va_K.moved hW.alike hK9, hD9⟩, hS.F ht⟩) hS.2.2 dX11_fault_28
    have oc_2 := zk_eq rfl (by decide +kernel : (1 : Int32).toInt = 1) c_2
    refine lv_aload_n hx hb dX11_fault_17 rfl (lv_at hl 0 rfl) ?_
    refine va_get (D := (dC, dI)) (ci := 11) (v := .ref r0_3) (C := RX11) (T := TX11) (N := 16) hx hb hts zn_X11_fault_X11 hown hK hP 0 rfl rfl 3 (by decide) (hts (.fieldLink RX11 20 "ShortEnough" "parser" "LShortEnough$Parser;") zw_X11_fault_337) (fun _ h9 => h9) rfl dX11_fault_18 ?_
    refine va_get (D := (dC, dI)) (ci := 5) (v := .int v1_3) (C := RX5) (T := TX5) (N := 4) hx hb hts zn_X11_fault_X5 hown hK hP 1 rfl rfl 3 (by decide) (hts (.fieldLink RX11 134 "ShortEnough$Parser" "faultPlace" "I") zw_X11_fault_339) (fun _ h9 => h9) rfl dX11_fault_21 ?_
    refine lv_goto (tgt := 28) hx hb dX11_fault_24 (by decide) ?_
    have hP9 := hP.sub (ws' := [(h0, .inr (11, [.ref r0_0, .int v0_1, .ref r0_2, .ref r0_3, .ref r0_4, .ref r0_5, .ref r0_6, .ref r0_7, .ref r0_8, .ref r0_9, .ref r0_10, .ref r0_11, .ref r0_12, .ref r0_13, .ref r0_14, .int v0_15])), (r0_3, .inr (5, [.ref r1_0, .int v1_1, .int v1_2, .int v1_3]))]) [0, 1] rfl
    have hD9 := hD.sub (ws' := [(h0, .inr (11, [.ref r0_0, .int v0_1, .ref r0_2, .ref r0_3, .ref r0_4, .ref r0_5, .ref r0_6, .ref r0_7, .ref r0_8, .ref r0_9, .ref r0_10, .ref r0_11, .ref r0_12, .ref r0_13, .ref r0_14, .int v0_15])), (r0_3, .inr (5, [.ref r1_0, .int v1_1, .int v1_2, .int v1_3]))]) [0, 1] (by decide) rfl
    have hK9 := hK.sub (tys' := []) [] rfl
    rw [← hQ]
    exact W.iret (v := v1_3) hx hb hr (fun t ht hW => ⟨⟨v1_3, ((fun k => ([] : List Int32).getD k 0), (fun k => ([] : List (Nat → Int32)).getD k (fun _ => 0)), (fun k => ([] : List (Nat → Int64)).getD k (fun _ => 0))), rfl, ⟨(show ((v1_3 : Int32).toInt = -1 ∨ ((0 : Int) ≤ p1.toInt + (0) ∧ (p1.toInt : Int) ≤ 0 + (1))) by omega), trivial⟩, by rw [ht]; exact hP9, va_K.moved hW.alike hK9, hD9⟩, hS.F ht⟩) hS.2.2 dX11_fault_28
  have oc_1 := zk_eq rfl (by decide +kernel : (0 : Int32).toInt = 0) c_1
  refine lv_aload_n hx hb dX11_fault_4 rfl (lv_at hl 0 rfl) ?_
  refine va_get (D := (dC, dI)) (ci := 11) (v := .ref r0_3) (C := RX11) (T := TX11) (N := 16) hx hb hts zn_X11_fault_X11 hown hK hP 0 rfl rfl 3 (by decide) (hts (.fieldLink RX11 20 "ShortEnough" "parser" "LShortEnough$Parser;") zw_X11_fault_337) (fun _ h9 => h9) rfl dX11_fault_5 ?_
  refine va_get (D := (dC, dI)) (ci := 5) (v := .int v1_2) (C := RX5) (T := TX5) (N := 4) hx hb hts zn_X11_fault_X5 hown hK hP 1 rfl rfl 2 (by decide) (hts (.fieldLink RX11 131 "ShortEnough$Parser" "faultKind" "I") zw_X11_fault_340) (fun _ h9 => h9) rfl dX11_fault_8 ?_
  have hP9 := hP.sub (ws' := [(h0, .inr (11, [.ref r0_0, .int v0_1, .ref r0_2, .ref r0_3, .ref r0_4, .ref r0_5, .ref r0_6, .ref r0_7, .ref r0_8, .ref r0_9, .ref r0_10, .ref r0_11, .ref r0_12, .ref r0_13, .ref r0_14, .int v0_15])), (r0_3, .inr (5, [.ref r1_0, .int v1_1, .int v1_2, .int v1_3]))]) [0, 1] rfl
  have hD9 := hD.sub (ws' := [(h0, .inr (11, [.ref r0_0, .int v0_1, .ref r0_2, .ref r0_3, .ref r0_4, .ref r0_5, .ref r0_6, .ref r0_7, .ref r0_8, .ref r0_9, .ref r0_10, .ref r0_11, .ref r0_12, .ref r0_13, .ref r0_14, .int v0_15])), (r0_3, .inr (5, [.ref r1_0, .int v1_1, .int v1_2, .int v1_3]))]) [0, 1] (by decide) rfl
  have hK9 := hK.sub (tys' := []) [] rfl
  rw [← hQ]
  exact W.iret (v := v1_2) hx hb hr (fun t ht hW => ⟨⟨v1_2, ((fun k => ([] : List Int32).getD k 0), (fun k => ([] : List (Nat → Int32)).getD k (fun _ => 0)), (fun k => ([] : List (Nat → Int64)).getD k (fun _ => 0))), rfl, ⟨(show ((v1_2 : Int32).toInt = -1 ∨ ((0 : Int) ≤ p1.toInt + (0) ∧ (p1.toInt : Int) ≤ 0 + (1))) by omega), trivial⟩, by rw [ht]; exact hP9, va_K.moved hW.alike hK9, hD9⟩, hS.F ht⟩) hS.2.2 dX11_fault_11
set_option maxHeartbeats 4000000 in
set_option maxRecDepth 100000 in
theorem zs_X11_has (l : Launch) (dC : Nat → ClassId) (dI : Nat → Nat → Nat) (h0 : Nat) (p1 : Int32) (r0_0 : Nat) (v0_1 : Int32) (r0_2 : Nat) (r0_3 : Nat) (r0_4 : Nat) (r0_5 : Nat) (r0_6 : Nat) (r0_7 : Nat) (r0_8 : Nat) (r0_9 : Nat) (r0_10 : Nat) (r0_11 : Nat) (r0_12 : Nat) (r0_13 : Nat) (r0_14 : Nat) (v0_15 : Int32) (v1_0 : Int32) (r1_1 : Nat) (r1_2 : Nat) (r1_3 : Nat) (r1_4 : Nat) (v1_5 : Int32) (r1_6 : Nat) (r1_7 : Nat) (r1_8 : Nat) (v2_0 : Int32) (v2_1 : Int32) (r2_2 : Nat) (r2_3 : Nat) (r2_4 : Nat) (r2_5 : Nat) (r2_6 : Nat) (r2_7 : Nat) (r2_8 : Nat) (r2_9 : Nat) (k3 : Nat) (f3 : Nat → Int32) (v4_0 : Int32) (v4_1 : Int32) (v4_2 : Int32) (r4_3 : Nat) (r4_4 : Nat) (r4_5 : Nat) (hq_v0_1 : (0 : Int) ≤ v0_1.toInt ∧ v0_1.toInt ≤ 1200) (hq_v1_0 : (0 : Int) ≤ v1_0.toInt ∧ v1_0.toInt ≤ 4) (hq_v2_0 : (0 : Int) ≤ v2_0.toInt ∧ v2_0.toInt ≤ 14) (hq_v4_0 : (0 : Int) ≤ v4_0.toInt ∧ v4_0.toInt ≤ 14) (hq_v4_2 : (0 : Int) ≤ v4_2.toInt ∧ v4_2.toInt ≤ 1) (sz : Nat) : Met l yX11_has wsX11_has ({ frames := 1, cells := 0, slots := 0, locals := 23 }) (va_Pc [.ref h0, .int p1] (fun U => U.heap.size = sz ∧ va_P (dC, dI) vwCl [(h0, .inr (11, [.ref r0_0, .int v0_1, .ref r0_2, .ref r0_3, .ref r0_4, .ref r0_5, .ref r0_6, .ref r0_7, .ref r0_8, .ref r0_9, .ref r0_10, .ref r0_11, .ref r0_12, .ref r0_13, .ref r0_14, .int v0_15])), (r0_4, .inr (9, [.int v1_0, .ref r1_1, .ref r1_2, .ref r1_3, .ref r1_4, .int v1_5, .ref r1_6, .ref r1_7, .ref r1_8])), (r1_6, .inr (4, [.int v2_0, .int v2_1, .ref r2_2, .ref r2_3, .ref r2_4, .ref r2_5, .ref r2_6, .ref r2_7, .ref r2_8, .ref r2_9])), (r2_5, .inl (k3, 14, .inl f3)), (r1_7, .inr (2, [.int v4_0, .int v4_1, .int v4_2, .ref r4_3, .ref r4_4, .ref r4_5]))] U.heap ∧ va_K (dC, dI) vwCl [(k3, .int)] U ∧ va_D (fun _ => True) [(h0, .inr (11, [.ref r0_0, .int v0_1, .ref r0_2, .ref r0_3, .ref r0_4, .ref r0_5, .ref r0_6, .ref r0_7, .ref r0_8, .ref r0_9, .ref r0_10, .ref r0_11, .ref r0_12, .ref r0_13, .ref r0_14, .int v0_15])), (r0_4, .inr (9, [.int v1_0, .ref r1_1, .ref r1_2, .ref r1_3, .ref r1_4, .int v1_5, .ref r1_6, .ref r1_7, .ref r1_8])), (r1_6, .inr (4, [.int v2_0, .int v2_1, .ref r2_2, .ref r2_3, .ref r2_4, .ref r2_5, .ref r2_6, .ref r2_7, .ref r2_8, .ref r2_9])), (r2_5, .inl (k3, 14, .inl f3)), (r1_7, .inr (2, [.int v4_0, .int v4_1, .int v4_2, .ref r4_3, .ref r4_4, .ref r4_5]))])) (va_Qi (fun (r : Int32) (u : zV) => (r.toInt = -1 ∨ ((0 : Int) ≤ p1.toInt + (0) ∧ (p1.toInt : Int) ≤ 0 + (7))) ∧ True) (fun u t => va_P (dC, dI) vwCl [(h0, .inr (11, [.ref r0_0, .int v0_1, .ref r0_2, .ref r0_3, .ref r0_4, .ref r0_5, .ref r0_6, .ref r0_7, .ref r0_8, .ref r0_9, .ref r0_10, .ref r0_11, .ref r0_12, .ref r0_13, .ref r0_14, .int v0_15])), (r0_4, .inr (9, [.int v1_0, .ref r1_1, .ref r1_2, .ref r1_3, .ref r1_4, .int v1_5, .ref r1_6, .ref r1_7, .ref r1_8])), (r1_6, .inr (4, [.int v2_0, .int v2_1, .ref r2_2, .ref r2_3, .ref r2_4, .ref r2_5, .ref r2_6, .ref r2_7, .ref r2_8, .ref r2_9])), (r2_5, .inl (k3, 14, .inl f3)), (r1_7, .inr (2, [.int v4_0, .int v4_1, .int v4_2, .ref r4_3, .ref r4_4, .ref r4_5]))] t.heap ∧ va_K (dC, dI) vwCl [(k3, .int)] t ∧ va_D (va_A [(h0, .inr (11, [.ref r0_0, .int v0_1, .ref r0_2, .ref r0_3, .ref r0_4, .ref r0_5, .ref r0_6, .ref r0_7, .ref r0_8, .ref r0_9, .ref r0_10, .ref r0_11, .ref r0_12, .ref r0_13, .ref r0_14, .int v0_15])), (r0_4, .inr (9, [.int v1_0, .ref r1_1, .ref r1_2, .ref r1_3, .ref r1_4, .int v1_5, .ref r1_6, .ref r1_7, .ref r1_8])), (r1_6, .inr (4, [.int v2_0, .int v2_1, .ref r2_2, .ref r2_3, .ref r2_4, .ref r2_5, .ref r2_6, .ref r2_7, .ref r2_8, .ref r2_9])), (r2_5, .inl (k3, 14, .inl f3)), (r1_7, .inr (2, [.int v4_0, .int v4_1, .int v4_2, .ref r4_3, .ref r4_4, .ref r4_5]))] sz) [(h0, .inr (11, [.ref r0_0, .int v0_1, .ref r0_2, .ref r0_3, .ref r0_4, .ref r0_5, .ref r0_6, .ref r0_7, .ref r0_8, .ref r0_9, .ref r0_10, .ref r0_11, .ref r0_12, .ref r0_13, .ref r0_14, .int v0_15])), (r0_4, .inr (9, [.int v1_0, .ref r1_1, .ref r1_2, .ref r1_3, .ref r1_4, .int v1_5, .ref r1_6, .ref r1_7, .ref r1_8])), (r1_6, .inr (4, [.int v2_0, .int v2_1, .ref r2_2, .ref r2_3, .ref r2_4, .ref r2_5, .ref r2_6, .ref r2_7, .ref r2_8, .ref r2_9])), (r2_5, .inl (k3, 14, .inl f3)), (r1_7, .inr (2, [.int v4_0, .int v4_1, .int v4_2, .ref r4_3, .ref r4_4, .ref r4_5]))]) (va_A [(h0, .inr (11, [.ref r0_0, .int v0_1, .ref r0_2, .ref r0_3, .ref r0_4, .ref r0_5, .ref r0_6, .ref r0_7, .ref r0_8, .ref r0_9, .ref r0_10, .ref r0_11, .ref r0_12, .ref r0_13, .ref r0_14, .int v0_15])), (r0_4, .inr (9, [.int v1_0, .ref r1_1, .ref r1_2, .ref r1_3, .ref r1_4, .int v1_5, .ref r1_6, .ref r1_7, .ref r1_8])), (r1_6, .inr (4, [.int v2_0, .int v2_1, .ref r2_2, .ref r2_3, .ref r2_4, .ref r2_5, .ref r2_6, .ref r2_7, .ref r2_8, .ref r2_9])), (r2_5, .inl (k3, 14, .inl f3)), (r1_7, .inr (2, [.int v4_0, .int v4_1, .int v4_2, .ref r4_3, .ref r4_4, .ref r4_5]))] sz)) 0 0 (va_A [(h0, .inr (11, [.ref r0_0, .int v0_1, .ref r0_2, .ref r0_3, .ref r0_4, .ref r0_5, .ref r0_6, .ref r0_7, .ref r0_8, .ref r0_9, .ref r0_10, .ref r0_11, .ref r0_12, .ref r0_13, .ref r0_14, .int v0_15])), (r0_4, .inr (9, [.int v1_0, .ref r1_1, .ref r1_2, .ref r1_3, .ref r1_4, .int v1_5, .ref r1_6, .ref r1_7, .ref r1_8])), (r1_6, .inr (4, [.int v2_0, .int v2_1, .ref r2_2, .ref r2_3, .ref r2_4, .ref r2_5, .ref r2_6, .ref r2_7, .ref r2_8, .ref r2_9])), (r2_5, .inl (k3, 14, .inl f3)), (r1_7, .inr (2, [.int v4_0, .int v4_1, .int v4_2, .ref r4_3, .ref r4_4, .ref r4_5]))] sz) := by
  refine Met.ofW (cc := cX11_has) (maxL := 2) (ret := (some .int)) (by decide +kernel) rfl ?_
  intro p e s m args below meth c s₁ B hml hv
  obtain ⟨rfl, hsz, hP, hK, hD0⟩ := hv
  have hx := B.exec
  have hb := B.bytes
  have hr := B.returns
  have hts := atoms_spec (ws := wsX11_has) B.pre
  have hown : s.vm.findClass RX11 = some m.cls := findClass_of_methodNamed B.named
  have hlocks := B.notSynchronized
  subst hsz
  have hD := hD0.self (sz := s.heap.size)
  generalize hAe : va_A [(h0, .inr (11, [.ref r0_0, .int v0_1, .ref r0_2, .ref r0_3, .ref r0_4, .ref r0_5, .ref r0_6, .ref r0_7, .ref r0_8, .ref r0_9, .ref r0_10, .ref r0_11, .ref r0_12, .ref r0_13, .ref r0_14, .int v0_15])), (r0_4, .inr (9, [.int v1_0, .ref r1_1, .ref r1_2, .ref r1_3, .ref r1_4, .int v1_5, .ref r1_6, .ref r1_7, .ref r1_8])), (r1_6, .inr (4, [.int v2_0, .int v2_1, .ref r2_2, .ref r2_3, .ref r2_4, .ref r2_5, .ref r2_6, .ref r2_7, .ref r2_8, .ref r2_9])), (r2_5, .inl (k3, 14, .inl f3)), (r1_7, .inr (2, [.int v4_0, .int v4_1, .int v4_2, .ref r4_3, .ref r4_4, .ref r4_5]))] s.heap.size = A at hD ⊢
  have hA : ∀ q : Nat, s.heap.size ≤ q → A q := fun q h => by rw [← hAe]; exact Or.inr h
  have hS : va_S A s.heap s.heap [] := va_S.rf
  have hP : va_P (dC, dI) vwCl [(h0, .inr (11, [.ref r0_0, .int v0_1, .ref r0_2, .ref r0_3, .ref r0_4, .ref r0_5, .ref r0_6, .ref r0_7, .ref r0_8, .ref r0_9, .ref r0_10, .ref r0_11, .ref r0_12, .ref r0_13, .ref r0_14, .int v0_15])), (r0_4, .inr (9, [.int v1_0, .ref r1_1, .ref r1_2, .ref r1_3, .ref r1_4, .int v1_5, .ref r1_6, .ref r1_7, .ref r1_8])), (r1_6, .inr (4, [.int v2_0, .int v2_1, .ref r2_2, .ref r2_3, .ref r2_4, .ref r2_5, .ref r2_6, .ref r2_7, .ref r2_8, .ref r2_9])), (r2_5, .inl (k3, 14, .inl f3)), (r1_7, .inr (2, [.int v4_0, .int v4_1, .int v4_2, .ref r4_3, .ref r4_4, .ref r4_5]))] s.heap := hP
  have hl := lv_entry ([.ref h0, .int p1]) (n := 2) (Nat.le_of_ble_eq_true rfl)
  rw [lg_entry_eq]
  generalize (lg_sl ([.ref h0, .int p1]) ++ List.replicate (2 - (lg_sl ([.ref h0, .int p1])).length) Slot.unset).toArray = ls at hl ⊢
  have hl : lv_has ls 2 [(0, .ref h0), (1, .int p1)] := hl
  generalize hQ : MQ below (va_Qi (fun (r : Int32) (u : zV) => (r.toInt = -1 ∨ ((0 : Int) ≤ p1.toInt + (0) ∧ (p1.toInt : Int) ≤ 0 + (7))) ∧ True) (fun u t => va_P (dC, dI) vwCl [(h0, .inr (11, [.ref r0_0, .int v0_1, .ref r0_2, .ref r0_3, .ref r0_4, .ref r0_5, .ref r0_6, .ref r0_7, .ref r0_8, .ref r0_9, .ref r0_10, .ref r0_11, .ref r0_12, .ref r0_13, .ref r0_14, .int v0_15])), (r0_4, .inr (9, [.int v1_0, .ref r1_1, .ref r1_2, .ref r1_3, .ref r1_4, .int v1_5, .ref r1_6, .ref r1_7, .ref r1_8])), (r1_6, .inr (4, [.int v2_0, .int v2_1, .ref r2_2, .ref r2_3, .ref r2_4, .ref r2_5, .ref r2_6, .ref r2_7, .ref r2_8, .ref r2_9])), (r2_5, .inl (k3, 14, .inl f3)), (r1_7, .inr (2, [.int v4_0, .int v4_1, .int v4_2, .ref r4_3, .ref r4_4, .ref r4_5]))] t.heap ∧ va_K (dC, dI) vwCl [(k3, .int)] t ∧ va_D A [(h0, .inr (11, [.ref r0_0, .int v0_1, .ref r0_2, .ref r0_3, .ref r0_4, .ref r0_5, .ref r0_6, .ref r0_7, .ref r0_8, .ref r0_9, .ref r0_10, .ref r0_11, .ref r0_12, .ref r0_13, .ref r0_14, .int v0_15])), (r0_4, .inr (9, [.int v1_0, .ref r1_1, .ref r1_2, .ref r1_3, .ref r1_4, .int v1_5, .ref r1_6, .ref r1_7, .ref r1_8])), (r1_6, .inr (4, [.int v2_0, .int v2_1, .ref r2_2, .ref r2_3, .ref r2_4, .ref r2_5, .ref r2_6, .ref r2_7, .ref r2_8, .ref r2_9])), (r2_5, .inl (k3, 14, .inl f3)), (r1_7, .inr (2, [.int v4_0, .int v4_1, .int v4_2, .ref r4_3, .ref r4_4, .ref r4_5]))]) A) ([.ref h0, .int p1] : List Value).toArray s 0 0 A = Q
  refine lv_iload_n hx hb dX11_has_0 rfl (lv_at hl 1 rfl) ?_
  by_cases c_1 : p1 = 0
  · refine W.eq (g2 := F0 m 1 ls [.int 0]) (by rw [c_1]) ?_
    refine lv_tableIn (tgt := 48) (off := 47) hx hb dX11_has_1 (by decide +kernel) (by decide +kernel) (by decide +kernel) (by decide) ?_
    have oc_1 := zk_eq rfl (by decide +kernel : (0 : Int32).toInt = 0) c_1
    refine lv_aload_n hx hb dX11_has_48 rfl (lv_at hl 0 rfl) ?_
    refine va_get (D := (dC, dI)) (ci := 11) (v := .ref r0_4) (C := RX11) (T := TX11) (N := 16) hx hb hts zn_X11_has_X11 hown hK hP 0 rfl rfl 4 (by decide) (hts (.fieldLink RX11 27 "ShortEnough" "current" "LShortEnough$Task;") zw_X11_has_342) (fun _ h9 => h9) rfl dX11_has_49 ?_
    refine va_get (D := (dC, dI)) (ci := 9) (v := .ref r1_6) (C := RX9) (T := TX9) (N := 9) hx hb hts zn_X11_has_X9 hown hK hP 1 rfl rfl 6 (by decide) (hts (.fieldLink RX11 122 "ShortEnough$Task" "numbers" "LShortEnough$Numbers;") zw_X11_has_344) (fun _ h9 => h9) rfl dX11_has_52 ?_
    refine va_get (D := (dC, dI)) (ci := 4) (v := .int v2_0) (C := RX4) (T := TX4) (N := 10) hx hb hts zn_X11_has_X4 hown hK hP 2 rfl rfl 0 (by decide) (hts (.fieldLink RX11 126 "ShortEnough$Numbers" "count" "I") zw_X11_has_346) (fun _ h9 => h9) rfl dX11_has_55 ?_
    have hP9 := hP.sub (ws' := [(h0, .inr (11, [.ref r0_0, .int v0_1, .ref r0_2, .ref r0_3, .ref r0_4, .ref r0_5, .ref r0_6, .ref r0_7, .ref r0_8, .ref r0_9, .ref r0_10, .ref r0_11, .ref r0_12, .ref r0_13, .ref r0_14, .int v0_15])), (r0_4, .inr (9, [.int v1_0, .ref r1_1, .ref r1_2, .ref r1_3, .ref r1_4, .int v1_5, .ref r1_6, .ref r1_7, .ref r1_8])), (r1_6, .inr (4, [.int v2_0, .int v2_1, .ref r2_2, .ref r2_3, .ref r2_4, .ref r2_5, .ref r2_6, .ref r2_7, .ref r2_8, .ref r2_9])), (r2_5, .inl (k3, 14, .inl f3)), (r1_7, .inr (2, [.int v4_0, .int v4_1, .int v4_2, .ref r4_3, .ref r4_4, .ref r4_5]))]) [0, 1, 2, 3, 4] rfl
    have hD9 := hD.sub (ws' := [(h0, .inr (11, [.ref r0_0, .int v0_1, .ref r0_2, .ref r0_3, .ref r0_4, .ref r0_5, .ref r0_6, .ref r0_7, .ref r0_8, .ref r0_9, .ref r0_10, .ref r0_11, .ref r0_12, .ref r0_13, .ref r0_14, .int v0_15])), (r0_4, .inr (9, [.int v1_0, .ref r1_1, .ref r1_2, .ref r1_3, .ref r1_4, .int v1_5, .ref r1_6, .ref r1_7, .ref r1_8])), (r1_6, .inr (4, [.int v2_0, .int v2_1, .ref r2_2, .ref r2_3, .ref r2_4, .ref r2_5, .ref r2_6, .ref r2_7, .ref r2_8, .ref r2_9])), (r2_5, .inl (k3, 14, .inl f3)), (r1_7, .inr (2, [.int v4_0, .int v4_1, .int v4_2, .ref r4_3, .ref r4_4, .ref r4_5]))]) [0, 1, 2, 3, 4] (by decide) rfl
    have hK9 := hK.sub (tys' := [(k3, .int)]) [0] rfl
    rw [← hQ]
    exact W.iret (v := v2_0) hx hb hr (fun t ht hW => ⟨⟨v2_0, ((fun k => ([] : List Int32).getD k 0), (fun k => ([] : List (Nat → Int32)).getD k (fun _ => 0)), (fun k => ([] : List (Nat → Int64)).getD k (fun _ => 0))), rfl, ⟨(show ((v2_0 : Int32).toInt = -1 ∨ ((0 : Int) ≤ p1.toInt + (0) ∧ (p1.toInt : Int) ≤ 0 + (7))) by omega), trivial⟩, by rw [ht]; exact hP9, va_K.moved hW.alike hK9, hD9⟩, hS.F ht⟩) hS.2.2 dX11_has_58
  have oc_1 := zk_ne rfl (by decide +kernel : (0 : Int32).toInt = 0) c_1
  by_cases c_2 : p1 = 1
  · refine W.eq (g2 := F0 m 1 ls [.int 1]) (by rw [c_2]) ?_
    refine lv_tableIn (tgt := 59) (off := 58) hx hb dX11_has_1 (by decide +kernel) (by decide +kernel) (by decide +kernel) (by decide) ?_
    have oc_2 := zk_eq rfl (by decide +kernel : (1 : Int32).toInt = 1) c_2
    refine lv_aload_n hx hb dX11_has_59 rfl (lv_at hl 0 rfl) ?_
    refine va_get (D := (dC, dI)) (ci := 11) (v := .ref r0_4) (C := RX11) (T := TX11) (N := 16) hx hb hts zn_X11_has_X11 hown hK hP 0 rfl rfl 4 (by decide) (hts (.fieldLink RX11 27 "ShortEnough" "current" "LShortEnough$Task;") zw_X11_has_342) (fun _ h9 => h9) rfl dX11_has_60 ?_
    refine va_get (D := (dC, dI)) (ci := 9) (v := .int v1_0) (C := RX9) (T := TX9) (N := 9) hx hb hts zn_X11_has_X9 hown hK hP 1 rfl rfl 0 (by decide) (hts (.fieldLink RX11 137 "ShortEnough$Task" "formats" "I") zw_X11_has_347) (fun _ h9 => h9) rfl dX11_has_63 ?_
    have hP9 := hP.sub (ws' := [(h0, .inr (11, [.ref r0_0, .int v0_1, .ref r0_2, .ref r0_3, .ref r0_4, .ref r0_5, .ref r0_6, .ref r0_7, .ref r0_8, .ref r0_9, .ref r0_10, .ref r0_11, .ref r0_12, .ref r0_13, .ref r0_14, .int v0_15])), (r0_4, .inr (9, [.int v1_0, .ref r1_1, .ref r1_2, .ref r1_3, .ref r1_4, .int v1_5, .ref r1_6, .ref r1_7, .ref r1_8])), (r1_6, .inr (4, [.int v2_0, .int v2_1, .ref r2_2, .ref r2_3, .ref r2_4, .ref r2_5, .ref r2_6, .ref r2_7, .ref r2_8, .ref r2_9])), (r2_5, .inl (k3, 14, .inl f3)), (r1_7, .inr (2, [.int v4_0, .int v4_1, .int v4_2, .ref r4_3, .ref r4_4, .ref r4_5]))]) [0, 1, 2, 3, 4] rfl
    have hD9 := hD.sub (ws' := [(h0, .inr (11, [.ref r0_0, .int v0_1, .ref r0_2, .ref r0_3, .ref r0_4, .ref r0_5, .ref r0_6, .ref r0_7, .ref r0_8, .ref r0_9, .ref r0_10, .ref r0_11, .ref r0_12, .ref r0_13, .ref r0_14, .int v0_15])), (r0_4, .inr (9, [.int v1_0, .ref r1_1, .ref r1_2, .ref r1_3, .ref r1_4, .int v1_5, .ref r1_6, .ref r1_7, .ref r1_8])), (r1_6, .inr (4, [.int v2_0, .int v2_1, .ref r2_2, .ref r2_3, .ref r2_4, .ref r2_5, .ref r2_6, .ref r2_7, .ref r2_8, .ref r2_9])), (r2_5, .inl (k3, 14, .inl f3)), (r1_7, .inr (2, [.int v4_0, .int v4_1, .int v4_2, .ref r4_3, .ref r4_4, .ref r4_5]))]) [0, 1, 2, 3, 4] (by decide) rfl
    have hK9 := hK.sub (tys' := [(k3, .int)]) [0] rfl
    rw [← hQ]
    exact W.iret (v := v1_0) hx hb hr (fun t ht hW => ⟨⟨v1_0, ((fun k => ([] : List Int32).getD k 0), (fun k => ([] : List (Nat → Int32)).getD k (fun _ => 0)), (fun k => ([] : List (Nat → Int64)).getD k (fun _ => 0))), rfl, ⟨(show ((v1_0 : Int32).toInt = -1 ∨ ((0 : Int) ≤ p1.toInt + (0) ∧ (p1.toInt : Int) ≤ 0 + (7))) by omega), trivial⟩, by rw [ht]; exact hP9, va_K.moved hW.alike hK9, hD9⟩, hS.F ht⟩) hS.2.2 dX11_has_66
  have oc_2 := zk_ne rfl (by decide +kernel : (1 : Int32).toInt = 1) c_2
  by_cases c_3 : p1 = 2
  · refine W.eq (g2 := F0 m 1 ls [.int 2]) (by rw [c_3]) ?_
    refine lv_tableIn (tgt := 67) (off := 66) hx hb dX11_has_1 (by decide +kernel) (by decide +kernel) (by decide +kernel) (by decide) ?_
    have oc_3 := zk_eq rfl (by decide +kernel : (2 : Int32).toInt = 2) c_3
    refine lv_aload_n hx hb dX11_has_67 rfl (lv_at hl 0 rfl) ?_
    refine va_get (D := (dC, dI)) (ci := 11) (v := .ref r0_4) (C := RX11) (T := TX11) (N := 16) hx hb hts zn_X11_has_X11 hown hK hP 0 rfl rfl 4 (by decide) (hts (.fieldLink RX11 27 "ShortEnough" "current" "LShortEnough$Task;") zw_X11_has_342) (fun _ h9 => h9) rfl dX11_has_68 ?_
    refine va_get (D := (dC, dI)) (ci := 9) (v := .ref r1_6) (C := RX9) (T := TX9) (N := 9) hx hb hts zn_X11_has_X9 hown hK hP 1 rfl rfl 6 (by decide) (hts (.fieldLink RX11 122 "ShortEnough$Task" "numbers" "LShortEnough$Numbers;") zw_X11_has_344) (fun _ h9 => h9) rfl dX11_has_71 ?_
    refine va_get (D := (dC, dI)) (ci := 4) (v := .int v2_1) (C := RX4) (T := TX4) (N := 10) hx hb hts zn_X11_has_X4 hown hK hP 2 rfl rfl 1 (by decide) (hts (.fieldLink RX11 140 "ShortEnough$Numbers" "inputs" "I") zw_X11_has_348) (fun _ h9 => h9) rfl dX11_has_74 ?_
    have hP9 := hP.sub (ws' := [(h0, .inr (11, [.ref r0_0, .int v0_1, .ref r0_2, .ref r0_3, .ref r0_4, .ref r0_5, .ref r0_6, .ref r0_7, .ref r0_8, .ref r0_9, .ref r0_10, .ref r0_11, .ref r0_12, .ref r0_13, .ref r0_14, .int v0_15])), (r0_4, .inr (9, [.int v1_0, .ref r1_1, .ref r1_2, .ref r1_3, .ref r1_4, .int v1_5, .ref r1_6, .ref r1_7, .ref r1_8])), (r1_6, .inr (4, [.int v2_0, .int v2_1, .ref r2_2, .ref r2_3, .ref r2_4, .ref r2_5, .ref r2_6, .ref r2_7, .ref r2_8, .ref r2_9])), (r2_5, .inl (k3, 14, .inl f3)), (r1_7, .inr (2, [.int v4_0, .int v4_1, .int v4_2, .ref r4_3, .ref r4_4, .ref r4_5]))]) [0, 1, 2, 3, 4] rfl
    have hD9 := hD.sub (ws' := [(h0, .inr (11, [.ref r0_0, .int v0_1, .ref r0_2, .ref r0_3, .ref r0_4, .ref r0_5, .ref r0_6, .ref r0_7, .ref r0_8, .ref r0_9, .ref r0_10, .ref r0_11, .ref r0_12, .ref r0_13, .ref r0_14, .int v0_15])), (r0_4, .inr (9, [.int v1_0, .ref r1_1, .ref r1_2, .ref r1_3, .ref r1_4, .int v1_5, .ref r1_6, .ref r1_7, .ref r1_8])), (r1_6, .inr (4, [.int v2_0, .int v2_1, .ref r2_2, .ref r2_3, .ref r2_4, .ref r2_5, .ref r2_6, .ref r2_7, .ref r2_8, .ref r2_9])), (r2_5, .inl (k3, 14, .inl f3)), (r1_7, .inr (2, [.int v4_0, .int v4_1, .int v4_2, .ref r4_3, .ref r4_4, .ref r4_5]))]) [0, 1, 2, 3, 4] (by decide) rfl
    have hK9 := hK.sub (tys' := [(k3, .int)]) [0] rfl
    rw [← hQ]
    exact W.iret (v := v2_1) hx hb hr (fun t ht hW => ⟨⟨v2_1, ((fun k => ([] : List Int32).getD k 0), (fun k => ([] : List (Nat → Int32)).getD k (fun _ => 0)), (fun k => ([] : List (Nat → Int64)).getD k (fun _ => 0))), rfl, ⟨(show ((v2_1 : Int32).toInt = -1 ∨ ((0 : Int) ≤ p1.toInt + (0) ∧ (p1.toInt : Int) ≤ 0 + (7))) by omega), trivial⟩, by rw [ht]; exact hP9, va_K.moved hW.alike hK9, hD9⟩, hS.F ht⟩) hS.2.2 dX11_has_77
  have oc_3 := zk_ne rfl (by decide +kernel : (2 : Int32).toInt = 2) c_3
  by_cases c_4 : p1 = 3
  · refine W.eq (g2 := F0 m 1 ls [.int 3]) (by rw [c_4]) ?_
    refine lv_tableIn (tgt := 78) (off := 77) hx hb dX11_has_1 (by decide +kernel) (by decide +kernel) (by decide +kernel) (by decide) ?_
    have oc_4 := zk_eq rfl (by decide +kernel : (3 : Int32).toInt = 3) c_4
    refine lv_aload_n hx hb dX11_has_78 rfl (lv_at hl 0 rfl) ?_
    refine va_get (D := (dC, dI)) (ci := 11) (v := .ref r0_4) (C := RX11) (T := TX11) (N := 16) hx hb hts zn_X11_has_X11 hown hK hP 0 rfl rfl 4 (by decide) (hts (.fieldLink RX11 27 "ShortEnough" "current" "LShortEnough$Task;") zw_X11_has_342) (fun _ h9 => h9) rfl dX11_has_79 ?_
    refine va_get (D := (dC, dI)) (ci := 9) (v := .ref r1_6) (C := RX9) (T := TX9) (N := 9) hx hb hts zn_X11_has_X9 hown hK hP 1 rfl rfl 6 (by decide) (hts (.fieldLink RX11 122 "ShortEnough$Task" "numbers" "LShortEnough$Numbers;") zw_X11_has_344) (fun _ h9 => h9) rfl dX11_has_82 ?_
    refine lv_aload_n hx hb dX11_has_85 rfl (lv_at hl 0 rfl) ?_
    refine va_get (D := (dC, dI)) (ci := 11) (v := .ref r0_4) (C := RX11) (T := TX11) (N := 16) hx hb hts zn_X11_has_X11 hown hK hP 0 rfl rfl 4 (by decide) (hts (.fieldLink RX11 27 "ShortEnough" "current" "LShortEnough$Task;") zw_X11_has_342) (fun _ h9 => h9) rfl dX11_has_86 ?_
    refine va_get (D := (dC, dI)) (ci := 9) (v := .ref r1_6) (C := RX9) (T := TX9) (N := 9) hx hb hts zn_X11_has_X9 hown hK hP 1 rfl rfl 6 (by decide) (hts (.fieldLink RX11 122 "ShortEnough$Task" "numbers" "LShortEnough$Numbers;") zw_X11_has_344) (fun _ h9 => h9) rfl dX11_has_89 ?_
    refine va_get (D := (dC, dI)) (ci := 4) (v := .int v2_0) (C := RX4) (T := TX4) (N := 10) hx hb hts zn_X11_has_X4 hown hK hP 2 rfl rfl 0 (by decide) (hts (.fieldLink RX11 126 "ShortEnough$Numbers" "count" "I") zw_X11_has_346) (fun _ h9 => h9) rfl dX11_has_92 ?_
    have hPc := hP.sub (ws' := [(r1_6, .inr (4, [.int v2_0, .int v2_1, .ref r2_2, .ref r2_3, .ref r2_4, .ref r2_5, .ref r2_6, .ref r2_7, .ref r2_8, .ref r2_9])), (r2_5, .inl (k3, 14, .inl f3))]) [2, 3] rfl
    have hDc := hD.sub (ws' := [(r1_6, .inr (4, [.int v2_0, .int v2_1, .ref r2_2, .ref r2_3, .ref r2_4, .ref r2_5, .ref r2_6, .ref r2_7, .ref r2_8, .ref r2_9])), (r2_5, .inl (k3, 14, .inl f3))]) [2, 3] (by decide) rfl
    have hKc := hK.sub (tys' := [(k3, .int)]) [0] rfl
    have hFc := va_free (wc := [(r1_6, .inr (4, [.int v2_0, .int v2_1, .ref r2_2, .ref r2_3, .ref r2_4, .ref r2_5, .ref r2_6, .ref r2_7, .ref r2_8, .ref r2_9])), (r2_5, .inl (k3, 14, .inl f3))]) hD hS hA [2, 3] rfl
    refine va_calli (va_runV (As := [.int v2_0]) (rest := []) ⟨hx, hb, hml, hown, hts⟩ (zs_X4_countAnswers l dC dI r1_6 v2_0 v2_0 v2_1 r2_2 r2_3 r2_4 r2_5 r2_6 r2_7 r2_8 r2_9 k3 f3 (by omega) s.heap.size) (cwV 1 hts gX11_has_X4_countAnswers rfl rfl rfl (by decide +kernel) ⟨Nat.le_of_ble_eq_true rfl, Nat.le_of_ble_eq_true rfl⟩) ⟨fun a U g mk q => by obtain ⟨q0, q1, qP, qK, qD⟩ := q; exact ⟨q0, q1, qP, va_K.moved (u := U) (U := U.calling g mk a) (Vm.Alike.refl U.vm) qK, qD⟩, va_recv hKc hPc (ci := 4) (q0 := 0) rfl rfl, fun U hU hW => ⟨rfl, by rw [hU], by rw [hU]; exact hPc, va_K.moved hW.alike hKc, hDc.weaken (fun _ _ _ _ => trivial)⟩⟩ rfl rfl hl.1 rfl (lv_room (Nat.le_of_ble_eq_true rfl)) dX11_has_95 ⟨Nat.le_of_ble_eq_true rfl, Nat.le_of_ble_eq_true rfl⟩) hS (fun q _ h => hFc q h) hFc (fun r_5 u_6 t H1 locs ht hvm hw_7 hB hz1 hk1 hS => ?_)
    obtain ⟨hP1, hK1, hD1⟩ := hB
    rw [ht] at hP1
    have hK1 := va_K.moved hvm.symm hK1
    obtain ⟨hP, hD⟩ := va_join (wr := [(h0, .inr (11, [.ref r0_0, .int v0_1, .ref r0_2, .ref r0_3, .ref r0_4, .ref r0_5, .ref r0_6, .ref r0_7, .ref r0_8, .ref r0_9, .ref r0_10, .ref r0_11, .ref r0_12, .ref r0_13, .ref r0_14, .int v0_15])), (r0_4, .inr (9, [.int v1_0, .ref r1_1, .ref r1_2, .ref r1_3, .ref r1_4, .int v1_5, .ref r1_6, .ref r1_7, .ref r1_8])), (r1_7, .inr (2, [.int v4_0, .int v4_1, .int v4_2, .ref r4_3, .ref r4_4, .ref r4_5]))]) (w1 := [(r1_6, .inr (4, [.int v2_0, .int v2_1, .ref r2_2, .ref r2_3, .ref r2_4, .ref r2_5, .ref r2_6, .ref r2_7, .ref r2_8, .ref r2_9])), (r2_5, .inl (k3, 14, .inl f3))]) hP hD [2, 3] [0, 1, 4] rfl rfl (by decide) (by decide) hk1 hFc hP1 hD1
    have hK := hK
    generalize H1 = H at hP hS ⊢
    have hP := hP.sub (ws' := [(h0, .inr (11, [.ref r0_0, .int v0_1, .ref r0_2, .ref r0_3, .ref r0_4, .ref r0_5, .ref r0_6, .ref r0_7, .ref r0_8, .ref r0_9, .ref r0_10, .ref r0_11, .ref r0_12, .ref r0_13, .ref r0_14, .int v0_15])), (r0_4, .inr (9, [.int v1_0, .ref r1_1, .ref r1_2, .ref r1_3, .ref r1_4, .int v1_5, .ref r1_6, .ref r1_7, .ref r1_8])), (r1_6, .inr (4, [.int v2_0, .int v2_1, .ref r2_2, .ref r2_3, .ref r2_4, .ref r2_5, .ref r2_6, .ref r2_7, .ref r2_8, .ref r2_9])), (r2_5, .inl (k3, 14, .inl f3)), (r1_7, .inr (2, [.int v4_0, .int v4_1, .int v4_2, .ref r4_3, .ref r4_4, .ref r4_5]))]) [0, 1, 3, 4, 2] rfl
    have hD := hD.sub (ws' := [(h0, .inr (11, [.ref r0_0, .int v0_1, .ref r0_2, .ref r0_3, .ref r0_4, .ref r0_5, .ref r0_6, .ref r0_7, .ref r0_8, .ref r0_9, .ref r0_10, .ref r0_11, .ref r0_12, .ref r0_13, .ref r0_14, .int v0_15])), (r0_4, .inr (9, [.int v1_0, .ref r1_1, .ref r1_2, .ref r1_3, .ref r1_4, .int v1_5, .ref r1_6, .ref r1_7, .ref r1_8])), (r1_6, .inr (4, [.int v2_0, .int v2_1, .ref r2_2, .ref r2_3, .ref r2_4, .ref r2_5, .ref r2_6, .ref r2_7, .ref r2_8, .ref r2_9])), (r2_5, .inl (k3, 14, .inl f3)), (r1_7, .inr (2, [.int v4_0, .int v4_1, .int v4_2, .ref r4_3, .ref r4_4, .ref r4_5]))]) [0, 1, 3, 4, 2] (by decide) rfl
    have hP : va_P (dC, dI) vwCl [(h0, .inr (11, [.ref r0_0, .int v0_1, .ref r0_2, .ref r0_3, .ref r0_4, .ref r0_5, .ref r0_6, .ref r0_7, .ref r0_8, .ref r0_9, .ref r0_10, .ref r0_11, .ref r0_12, .ref r0_13, .ref r0_14, .int v0_15])), (r0_4, .inr (9, [.int v1_0, .ref r1_1, .ref r1_2, .ref r1_3, .ref r1_4, .int v1_5, .ref r1_6, .ref r1_7, .ref r1_8])), (r1_6, .inr (4, [.int v2_0, .int v2_1, .ref r2_2, .ref r2_3, .ref r2_4, .ref r2_5, .ref r2_6, .ref r2_7, .ref r2_8, .ref r2_9])), (r2_5, .inl (k3, 14, .inl f3)), (r1_7, .inr (2, [.int v4_0, .int v4_1, .int v4_2, .ref r4_3, .ref r4_4, .ref r4_5]))] H := hP
    have hD : va_D A [(h0, .inr (11, [.ref r0_0, .int v0_1, .ref r0_2, .ref r0_3, .ref r0_4, .ref r0_5, .ref r0_6, .ref r0_7, .ref r0_8, .ref r0_9, .ref r0_10, .ref r0_11, .ref r0_12, .ref r0_13, .ref r0_14, .int v0_15])), (r0_4, .inr (9, [.int v1_0, .ref r1_1, .ref r1_2, .ref r1_3, .ref r1_4, .int v1_5, .ref r1_6, .ref r1_7, .ref r1_8])), (r1_6, .inr (4, [.int v2_0, .int v2_1, .ref r2_2, .ref r2_3, .ref r2_4, .ref r2_5, .ref r2_6, .ref r2_7, .ref r2_8, .ref r2_9])), (r2_5, .inl (k3, 14, .inl f3)), (r1_7, .inr (2, [.int v4_0, .int v4_1, .int v4_2, .ref r4_3, .ref r4_4, .ref r4_5]))] := hD
    obtain ⟨hr_5, -⟩ := hw_7
    have hP9 := hP.sub (ws' := [(h0, .inr (11, [.ref r0_0, .int v0_1, .ref r0_2, .ref r0_3, .ref r0_4, .ref r0_5, .ref r0_6, .ref r0_7, .ref r0_8, .ref r0_9, .ref r0_10, .ref r0_11, .ref r0_12, .ref r0_13, .ref r0_14, .int v0_15])), (r0_4, .inr (9, [.int v1_0, .ref r1_1, .ref r1_2, .ref r1_3, .ref r1_4, .int v1_5, .ref r1_6, .ref r1_7, .ref r1_8])), (r1_6, .inr (4, [.int v2_0, .int v2_1, .ref r2_2, .ref r2_3, .ref r2_4, .ref r2_5, .ref r2_6, .ref r2_7, .ref r2_8, .ref r2_9])), (r2_5, .inl (k3, 14, .inl f3)), (r1_7, .inr (2, [.int v4_0, .int v4_1, .int v4_2, .ref r4_3, .ref r4_4, .ref r4_5]))]) [0, 1, 2, 3, 4] rfl
    have hD9 := hD.sub (ws' := [(h0, .inr (11, [.ref r0_0, .int v0_1, .ref r0_2, .ref r0_3, .ref r0_4, .ref r0_5, .ref r0_6, .ref r0_7, .ref r0_8, .ref r0_9, .ref r0_10, .ref r0_11, .ref r0_12, .ref r0_13, .ref r0_14, .int v0_15])), (r0_4, .inr (9, [.int v1_0, .ref r1_1, .ref r1_2, .ref r1_3, .ref r1_4, .int v1_5, .ref r1_6, .ref r1_7, .ref r1_8])), (r1_6, .inr (4, [.int v2_0, .int v2_1, .ref r2_2, .ref r2_3, .ref r2_4, .ref r2_5, .ref r2_6, .ref r2_7, .ref r2_8, .ref r2_9])), (r2_5, .inl (k3, 14, .inl f3)), (r1_7, .inr (2, [.int v4_0, .int v4_1, .int v4_2, .ref r4_3, .ref r4_4, .ref r4_5]))]) [0, 1, 2, 3, 4] (by decide) rfl
    have hK9 := hK.sub (tys' := [(k3, .int)]) [0] rfl
    rw [← hQ]
    exact W.iret (v := r_5) hx hb hr (fun t ht hW => ⟨⟨r_5, ((fun k => ([] : List Int32).getD k 0), (fun k => ([] : List (Nat → Int32)).getD k (fun _ => 0)), (fun k => ([] : List (Nat → Int64)).getD k (fun _ => 0))), rfl, ⟨(show ((r_5 : Int32).toInt = -1 ∨ ((0 : Int) ≤ p1.toInt + (0) ∧ (p1.toInt : Int) ≤ 0 + (7))) by omega), trivial⟩, by rw [ht]; exact hP9, va_K.moved hW.alike hK9, hD9⟩, hS.F ht⟩) hS.2.2 dX11_has_98
  have oc_4 := zk_ne rfl (by decide +kernel : (3 : Int32).toInt = 3) c_4
  by_cases c_8 : p1 = 4
  · refine W.eq (g2 := F0 m 1 ls [.int 4]) (by rw [c_8]) ?_
    refine lv_tableIn (tgt := 99) (off := 98) hx hb dX11_has_1 (by decide +kernel) (by decide +kernel) (by decide +kernel) (by decide) ?_
    have oc_8 := zk_eq rfl (by decide +kernel : (4 : Int32).toInt = 4) c_8
    refine lv_aload_n hx hb dX11_has_99 rfl (lv_at hl 0 rfl) ?_
    refine va_get (D := (dC, dI)) (ci := 11) (v := .ref r0_4) (C := RX11) (T := TX11) (N := 16) hx hb hts zn_X11_has_X11 hown hK hP 0 rfl rfl 4 (by decide) (hts (.fieldLink RX11 27 "ShortEnough" "current" "LShortEnough$Task;") zw_X11_has_342) (fun _ h9 => h9) rfl dX11_has_100 ?_
    refine va_get (D := (dC, dI)) (ci := 9) (v := .ref r1_7) (C := RX9) (T := TX9) (N := 9) hx hb hts zn_X11_has_X9 hown hK hP 1 rfl rfl 7 (by decide) (hts (.fieldLink RX11 107 "ShortEnough$Task" "groups" "LShortEnough$Groups;") zw_X11_has_349) (fun _ h9 => h9) rfl dX11_has_103 ?_
    refine va_get (D := (dC, dI)) (ci := 2) (v := .int v4_0) (C := RX2) (T := TX2) (N := 6) hx hb hts zn_X11_has_X2 hown hK hP 4 rfl rfl 0 (by decide) (hts (.fieldLink RX11 146 "ShortEnough$Groups" "count" "I") zw_X11_has_351) (fun _ h9 => h9) rfl dX11_has_106 ?_
    have hP9 := hP.sub (ws' := [(h0, .inr (11, [.ref r0_0, .int v0_1, .ref r0_2, .ref r0_3, .ref r0_4, .ref r0_5, .ref r0_6, .ref r0_7, .ref r0_8, .ref r0_9, .ref r0_10, .ref r0_11, .ref r0_12, .ref r0_13, .ref r0_14, .int v0_15])), (r0_4, .inr (9, [.int v1_0, .ref r1_1, .ref r1_2, .ref r1_3, .ref r1_4, .int v1_5, .ref r1_6, .ref r1_7, .ref r1_8])), (r1_6, .inr (4, [.int v2_0, .int v2_1, .ref r2_2, .ref r2_3, .ref r2_4, .ref r2_5, .ref r2_6, .ref r2_7, .ref r2_8, .ref r2_9])), (r2_5, .inl (k3, 14, .inl f3)), (r1_7, .inr (2, [.int v4_0, .int v4_1, .int v4_2, .ref r4_3, .ref r4_4, .ref r4_5]))]) [0, 1, 2, 3, 4] rfl
    have hD9 := hD.sub (ws' := [(h0, .inr (11, [.ref r0_0, .int v0_1, .ref r0_2, .ref r0_3, .ref r0_4, .ref r0_5, .ref r0_6, .ref r0_7, .ref r0_8, .ref r0_9, .ref r0_10, .ref r0_11, .ref r0_12, .ref r0_13, .ref r0_14, .int v0_15])), (r0_4, .inr (9, [.int v1_0, .ref r1_1, .ref r1_2, .ref r1_3, .ref r1_4, .int v1_5, .ref r1_6, .ref r1_7, .ref r1_8])), (r1_6, .inr (4, [.int v2_0, .int v2_1, .ref r2_2, .ref r2_3, .ref r2_4, .ref r2_5, .ref r2_6, .ref r2_7, .ref r2_8, .ref r2_9])), (r2_5, .inl (k3, 14, .inl f3)), (r1_7, .inr (2, [.int v4_0, .int v4_1, .int v4_2, .ref r4_3, .ref r4_4, .ref r4_5]))]) [0, 1, 2, 3, 4] (by decide) rfl
    have hK9 := hK.sub (tys' := [(k3, .int)]) [0] rfl
    rw [← hQ]
    exact W.iret (v := v4_0) hx hb hr (fun t ht hW => ⟨⟨v4_0, ((fun k => ([] : List Int32).getD k 0), (fun k => ([] : List (Nat → Int32)).getD k (fun _ => 0)), (fun k => ([] : List (Nat → Int64)).getD k (fun _ => 0))), rfl, ⟨(show ((v4_0 : Int32).toInt = -1 ∨ ((0 : Int) ≤ p1.toInt + (0) ∧ (p1.toInt : Int) ≤ 0 + (7))) by omega), trivial⟩, by rw [ht]; exact hP9, va_K.moved hW.alike hK9, hD9⟩, hS.F ht⟩) hS.2.2 dX11_has_109
  have oc_8 := zk_ne rfl (by decide +kernel : (4 : Int32).toInt = 4) c_8
  by_cases c_9 : p1 = 5
  · refine W.eq (g2 := F0 m 1 ls [.int 5]) (by rw [c_9]) ?_
    refine lv_tableIn (tgt := 110) (off := 109) hx hb dX11_has_1 (by decide +kernel) (by decide +kernel) (by decide +kernel) (by decide) ?_
    have oc_9 := zk_eq rfl (by decide +kernel : (5 : Int32).toInt = 5) c_9
    refine lv_aload_n hx hb dX11_has_110 rfl (lv_at hl 0 rfl) ?_
    refine va_get (D := (dC, dI)) (ci := 11) (v := .ref r0_4) (C := RX11) (T := TX11) (N := 16) hx hb hts zn_X11_has_X11 hown hK hP 0 rfl rfl 4 (by decide) (hts (.fieldLink RX11 27 "ShortEnough" "current" "LShortEnough$Task;") zw_X11_has_342) (fun _ h9 => h9) rfl dX11_has_111 ?_
    refine va_get (D := (dC, dI)) (ci := 9) (v := .ref r1_7) (C := RX9) (T := TX9) (N := 9) hx hb hts zn_X11_has_X9 hown hK hP 1 rfl rfl 7 (by decide) (hts (.fieldLink RX11 107 "ShortEnough$Task" "groups" "LShortEnough$Groups;") zw_X11_has_349) (fun _ h9 => h9) rfl dX11_has_114 ?_
    refine va_get (D := (dC, dI)) (ci := 2) (v := .int v4_1) (C := RX2) (T := TX2) (N := 6) hx hb hts zn_X11_has_X2 hown hK hP 4 rfl rfl 1 (by decide) (hts (.fieldLink RX11 147 "ShortEnough$Groups" "free" "I") zw_X11_has_352) (fun _ h9 => h9) rfl dX11_has_117 ?_
    have hP9 := hP.sub (ws' := [(h0, .inr (11, [.ref r0_0, .int v0_1, .ref r0_2, .ref r0_3, .ref r0_4, .ref r0_5, .ref r0_6, .ref r0_7, .ref r0_8, .ref r0_9, .ref r0_10, .ref r0_11, .ref r0_12, .ref r0_13, .ref r0_14, .int v0_15])), (r0_4, .inr (9, [.int v1_0, .ref r1_1, .ref r1_2, .ref r1_3, .ref r1_4, .int v1_5, .ref r1_6, .ref r1_7, .ref r1_8])), (r1_6, .inr (4, [.int v2_0, .int v2_1, .ref r2_2, .ref r2_3, .ref r2_4, .ref r2_5, .ref r2_6, .ref r2_7, .ref r2_8, .ref r2_9])), (r2_5, .inl (k3, 14, .inl f3)), (r1_7, .inr (2, [.int v4_0, .int v4_1, .int v4_2, .ref r4_3, .ref r4_4, .ref r4_5]))]) [0, 1, 2, 3, 4] rfl
    have hD9 := hD.sub (ws' := [(h0, .inr (11, [.ref r0_0, .int v0_1, .ref r0_2, .ref r0_3, .ref r0_4, .ref r0_5, .ref r0_6, .ref r0_7, .ref r0_8, .ref r0_9, .ref r0_10, .ref r0_11, .ref r0_12, .ref r0_13, .ref r0_14, .int v0_15])), (r0_4, .inr (9, [.int v1_0, .ref r1_1, .ref r1_2, .ref r1_3, .ref r1_4, .int v1_5, .ref r1_6, .ref r1_7, .ref r1_8])), (r1_6, .inr (4, [.int v2_0, .int v2_1, .ref r2_2, .ref r2_3, .ref r2_4, .ref r2_5, .ref r2_6, .ref r2_7, .ref r2_8, .ref r2_9])), (r2_5, .inl (k3, 14, .inl f3)), (r1_7, .inr (2, [.int v4_0, .int v4_1, .int v4_2, .ref r4_3, .ref r4_4, .ref r4_5]))]) [0, 1, 2, 3, 4] (by decide) rfl
    have hK9 := hK.sub (tys' := [(k3, .int)]) [0] rfl
    rw [← hQ]
    exact W.iret (v := v4_1) hx hb hr (fun t ht hW => ⟨⟨v4_1, ((fun k => ([] : List Int32).getD k 0), (fun k => ([] : List (Nat → Int32)).getD k (fun _ => 0)), (fun k => ([] : List (Nat → Int64)).getD k (fun _ => 0))), rfl, ⟨(show ((v4_1 : Int32).toInt = -1 ∨ ((0 : Int) ≤ p1.toInt + (0) ∧ (p1.toInt : Int) ≤ 0 + (7))) by omega), trivial⟩, by rw [ht]; exact hP9, va_K.moved hW.alike hK9, hD9⟩, hS.F ht⟩) hS.2.2 dX11_has_120
  have oc_9 := zk_ne rfl (by decide +kernel : (5 : Int32).toInt = 5) c_9
  by_cases c_10 : p1 = 6
  · refine W.eq (g2 := F0 m 1 ls [.int 6]) (by rw [c_10]) ?_
    refine lv_tableIn (tgt := 121) (off := 120) hx hb dX11_has_1 (by decide +kernel) (by decide +kernel) (by decide +kernel) (by decide) ?_
    have oc_10 := zk_eq rfl (by decide +kernel : (6 : Int32).toInt = 6) c_10
    refine lv_aload_n hx hb dX11_has_121 rfl (lv_at hl 0 rfl) ?_
    refine va_get (D := (dC, dI)) (ci := 11) (v := .ref r0_4) (C := RX11) (T := TX11) (N := 16) hx hb hts zn_X11_has_X11 hown hK hP 0 rfl rfl 4 (by decide) (hts (.fieldLink RX11 27 "ShortEnough" "current" "LShortEnough$Task;") zw_X11_has_342) (fun _ h9 => h9) rfl dX11_has_122 ?_
    refine va_get (D := (dC, dI)) (ci := 9) (v := .int v1_5) (C := RX9) (T := TX9) (N := 9) hx hb hts zn_X11_has_X9 hown hK hP 1 rfl rfl 5 (by decide) (hts (.fieldLink RX11 150 "ShortEnough$Task" "castPrice" "I") zw_X11_has_353) (fun _ h9 => h9) rfl dX11_has_125 ?_
    have hP9 := hP.sub (ws' := [(h0, .inr (11, [.ref r0_0, .int v0_1, .ref r0_2, .ref r0_3, .ref r0_4, .ref r0_5, .ref r0_6, .ref r0_7, .ref r0_8, .ref r0_9, .ref r0_10, .ref r0_11, .ref r0_12, .ref r0_13, .ref r0_14, .int v0_15])), (r0_4, .inr (9, [.int v1_0, .ref r1_1, .ref r1_2, .ref r1_3, .ref r1_4, .int v1_5, .ref r1_6, .ref r1_7, .ref r1_8])), (r1_6, .inr (4, [.int v2_0, .int v2_1, .ref r2_2, .ref r2_3, .ref r2_4, .ref r2_5, .ref r2_6, .ref r2_7, .ref r2_8, .ref r2_9])), (r2_5, .inl (k3, 14, .inl f3)), (r1_7, .inr (2, [.int v4_0, .int v4_1, .int v4_2, .ref r4_3, .ref r4_4, .ref r4_5]))]) [0, 1, 2, 3, 4] rfl
    have hD9 := hD.sub (ws' := [(h0, .inr (11, [.ref r0_0, .int v0_1, .ref r0_2, .ref r0_3, .ref r0_4, .ref r0_5, .ref r0_6, .ref r0_7, .ref r0_8, .ref r0_9, .ref r0_10, .ref r0_11, .ref r0_12, .ref r0_13, .ref r0_14, .int v0_15])), (r0_4, .inr (9, [.int v1_0, .ref r1_1, .ref r1_2, .ref r1_3, .ref r1_4, .int v1_5, .ref r1_6, .ref r1_7, .ref r1_8])), (r1_6, .inr (4, [.int v2_0, .int v2_1, .ref r2_2, .ref r2_3, .ref r2_4, .ref r2_5, .ref r2_6, .ref r2_7, .ref r2_8, .ref r2_9])), (r2_5, .inl (k3, 14, .inl f3)), (r1_7, .inr (2, [.int v4_0, .int v4_1, .int v4_2, .ref r4_3, .ref r4_4, .ref r4_5]))]) [0, 1, 2, 3, 4] (by decide) rfl
    have hK9 := hK.sub (tys' := [(k3, .int)]) [0] rfl
    rw [← hQ]
    exact W.iret (v := v1_5) hx hb hr (fun t ht hW => ⟨⟨v1_5, ((fun k => ([] : List Int32).getD k 0), (fun k => ([] : List (Nat → Int32)).getD k (fun _ => 0)), (fun k => ([] : List (Nat → Int64)).getD k (fun _ => 0))), rfl, ⟨(show ((v1_5 : Int32).toInt = -1 ∨ ((0 : Int) ≤ p1.toInt + (0) ∧ (p1.toInt : Int) ≤ 0 + (7))) by omega), trivial⟩, by rw [ht]; exact hP9, va_K.moved hW.alike hK9, hD9⟩, hS.F ht⟩) hS.2.2 dX11_has_128
  have oc_10 := zk_ne rfl (by decide +kernel : (6 : Int32).toInt = 6) c_10
  by_cases c_11 : p1 = 7
  · refine W.eq (g2 := F0 m 1 ls [.int 7]) (by rw [c_11]) ?_
    refine lv_tableIn (tgt := 129) (off := 128) hx hb dX11_has_1 (by decide +kernel) (by decide +kernel) (by decide +kernel) (by decide) ?_
    have oc_11 := zk_eq rfl (by decide +kernel : (7 : Int32).toInt = 7) c_11
    refine lv_aload_n hx hb dX11_has_129 rfl (lv_at hl 0 rfl) ?_
    refine va_get (D := (dC, dI)) (ci := 11) (v := .int v0_15) (C := RX11) (T := TX11) (N := 16) hx hb hts zn_X11_has_X11 hown hK hP 0 rfl rfl 15 (by decide) (hts (.fieldLink RX11 85 "ShortEnough" "seedNow" "I") zw_X11_has_354) (fun _ h9 => h9) rfl dX11_has_130 ?_
    have hP9 := hP.sub (ws' := [(h0, .inr (11, [.ref r0_0, .int v0_1, .ref r0_2, .ref r0_3, .ref r0_4, .ref r0_5, .ref r0_6, .ref r0_7, .ref r0_8, .ref r0_9, .ref r0_10, .ref r0_11, .ref r0_12, .ref r0_13, .ref r0_14, .int v0_15])), (r0_4, .inr (9, [.int v1_0, .ref r1_1, .ref r1_2, .ref r1_3, .ref r1_4, .int v1_5, .ref r1_6, .ref r1_7, .ref r1_8])), (r1_6, .inr (4, [.int v2_0, .int v2_1, .ref r2_2, .ref r2_3, .ref r2_4, .ref r2_5, .ref r2_6, .ref r2_7, .ref r2_8, .ref r2_9])), (r2_5, .inl (k3, 14, .inl f3)), (r1_7, .inr (2, [.int v4_0, .int v4_1, .int v4_2, .ref r4_3, .ref r4_4, .ref r4_5]))]) [0, 1, 2, 3, 4] rfl
    have hD9 := hD.sub (ws' := [(h0, .inr (11, [.ref r0_0, .int v0_1, .ref r0_2, .ref r0_3, .ref r0_4, .ref r0_5, .ref r0_6, .ref r0_7, .ref r0_8, .ref r0_9, .ref r0_10, .ref r0_11, .ref r0_12, .ref r0_13, .ref r0_14, .int v0_15])), (r0_4, .inr (9, [.int v1_0, .ref r1_1, .ref r1_2, .ref r1_3, .ref r1_4, .int v1_5, .ref r1_6, .ref r1_7, .ref r1_8])), (r1_6, .inr (4, [.int v2_0, .int v2_1, .ref r2_2, .ref r2_3, .ref r2_4, .ref r2_5, .ref r2_6, .ref r2_7, .ref r2_8, .ref r2_9])), (r2_5, .inl (k3, 14, .inl f3)), (r1_7, .inr (2, [.int v4_0, .int v4_1, .int v4_2, .ref r4_3, .ref r4_4, .ref r4_5]))]) [0, 1, 2, 3, 4] (by decide) rfl
    have hK9 := hK.sub (tys' := [(k3, .int)]) [0] rfl
    rw [← hQ]
    exact W.iret (v := v0_15) hx hb hr (fun t ht hW => ⟨⟨v0_15, ((fun k => ([] : List Int32).getD k 0), (fun k => ([] : List (Nat → Int32)).getD k (fun _ => 0)), (fun k => ([] : List (Nat → Int64)).getD k (fun _ => 0))), rfl, ⟨(show ((v0_15 : Int32).toInt = -1 ∨ ((0 : Int) ≤ p1.toInt + (0) ∧ (p1.toInt : Int) ≤ 0 + (7))) by omega), trivial⟩, by rw [ht]; exact hP9, va_K.moved hW.alike hK9, hD9⟩, hS.F ht⟩) hS.2.2 dX11_has_133
  have oc_11 := zk_ne rfl (by decide +kernel : (7 : Int32).toInt = 7) c_11
  refine lv_tableOut (tgt := 134) hx hb dX11_has_1 (by omega) (by decide) ?_
  refine lv_iconst (v := (-1)) hx hb dX11_has_134 (by decide +kernel) ?_
  have hP9 := hP.sub (ws' := [(h0, .inr (11, [.ref r0_0, .int v0_1, .ref r0_2, .ref r0_3, .ref r0_4, .ref r0_5, .ref r0_6, .ref r0_7, .ref r0_8, .ref r0_9, .ref r0_10, .ref r0_11, .ref r0_12, .ref r0_13, .ref r0_14, .int v0_15])), (r0_4, .inr (9, [.int v1_0, .ref r1_1, .ref r1_2, .ref r1_3, .ref r1_4, .int v1_5, .ref r1_6, .ref r1_7, .ref r1_8])), (r1_6, .inr (4, [.int v2_0, .int v2_1, .ref r2_2, .ref r2_3, .ref r2_4, .ref r2_5, .ref r2_6, .ref r2_7, .ref r2_8, .ref r2_9])), (r2_5, .inl (k3, 14, .inl f3)), (r1_7, .inr (2, [.int v4_0, .int v4_1, .int v4_2, .ref r4_3, .ref r4_4, .ref r4_5]))]) [0, 1, 2, 3, 4] rfl
  have hD9 := hD.sub (ws' := [(h0, .inr (11, [.ref r0_0, .int v0_1, .ref r0_2, .ref r0_3, .ref r0_4, .ref r0_5, .ref r0_6, .ref r0_7, .ref r0_8, .ref r0_9, .ref r0_10, .ref r0_11, .ref r0_12, .ref r0_13, .ref r0_14, .int v0_15])), (r0_4, .inr (9, [.int v1_0, .ref r1_1, .ref r1_2, .ref r1_3, .ref r1_4, .int v1_5, .ref r1_6, .ref r1_7, .ref r1_8])), (r1_6, .inr (4, [.int v2_0, .int v2_1, .ref r2_2, .ref r2_3, .ref r2_4, .ref r2_5, .ref r2_6, .ref r2_7, .ref r2_8, .ref r2_9])), (r2_5, .inl (k3, 14, .inl f3)), (r1_7, .inr (2, [.int v4_0, .int v4_1, .int v4_2, .ref r4_3, .ref r4_4, .ref r4_5]))]) [0, 1, 2, 3, 4] (by decide) rfl
  have hK9 := hK.sub (tys' := [(k3, .int)]) [0] rfl
  rw [← hQ]
  exact W.iret (v := (-1)) hx hb hr (fun t ht hW => ⟨⟨(-1), ((fun k => ([] : List Int32).getD k 0), (fun k => ([] : List (Nat → Int32)).getD k (fun _ => 0)), (fun k => ([] : List (Nat → Int64)).getD k (fun _ => 0))), rfl, ⟨(show (((-1) : Int32).toInt = -1 ∨ ((0 : Int) ≤ p1.toInt + (0) ∧ (p1.toInt : Int) ≤ 0 + (7))) by exact Or.inl (by decide +kernel)), trivial⟩, by rw [ht]; exact hP9, va_K.moved hW.alike hK9, hD9⟩, hS.F ht⟩) hS.2.2 dX11_has_135
set_option maxHeartbeats 4000000 in
set_option maxRecDepth 100000 in
theorem zs_X11_letter (l : Launch) (dC : Nat → ClassId) (dI : Nat → Nat → Nat) (h0 : Nat) (p1 : Int32) (p2 : Int32) (p3 : Int32) (r0_0 : Nat) (v0_1 : Int32) (r0_2 : Nat) (r0_3 : Nat) (r0_4 : Nat) (r0_5 : Nat) (r0_6 : Nat) (r0_7 : Nat) (r0_8 : Nat) (r0_9 : Nat) (r0_10 : Nat) (r0_11 : Nat) (r0_12 : Nat) (r0_13 : Nat) (r0_14 : Nat) (v0_15 : Int32) (v1_0 : Int32) (r1_1 : Nat) (r1_2 : Nat) (r1_3 : Nat) (r1_4 : Nat) (v1_5 : Int32) (r1_6 : Nat) (r1_7 : Nat) (r1_8 : Nat) (v2_0 : Int32) (v2_1 : Int32) (r2_2 : Nat) (r2_3 : Nat) (r2_4 : Nat) (r2_5 : Nat) (r2_6 : Nat) (r2_7 : Nat) (r2_8 : Nat) (r2_9 : Nat) (k3 : Nat) (f3 : Nat → Int32) (k4 : Nat) (f4 : Nat → Int32) (hq_p2 : (0 : Int) ≤ p2.toInt ∧ p2.toInt ≤ 1) (hq_v0_1 : (0 : Int) ≤ v0_1.toInt ∧ v0_1.toInt ≤ 1200) (hq_v1_0 : (0 : Int) ≤ v1_0.toInt ∧ v1_0.toInt ≤ 4) (hq_v2_0 : (0 : Int) ≤ v2_0.toInt ∧ v2_0.toInt ≤ 14) (sz : Nat) : Met l yX11_letter wsX11_letter ({ frames := 1, cells := 0, slots := 0, locals := 21 }) (va_Pc [.ref h0, .int p1, .int p2, .int p3] (fun U => U.heap.size = sz ∧ va_P (dC, dI) vwCl [(h0, .inr (11, [.ref r0_0, .int v0_1, .ref r0_2, .ref r0_3, .ref r0_4, .ref r0_5, .ref r0_6, .ref r0_7, .ref r0_8, .ref r0_9, .ref r0_10, .ref r0_11, .ref r0_12, .ref r0_13, .ref r0_14, .int v0_15])), (r0_4, .inr (9, [.int v1_0, .ref r1_1, .ref r1_2, .ref r1_3, .ref r1_4, .int v1_5, .ref r1_6, .ref r1_7, .ref r1_8])), (r1_6, .inr (4, [.int v2_0, .int v2_1, .ref r2_2, .ref r2_3, .ref r2_4, .ref r2_5, .ref r2_6, .ref r2_7, .ref r2_8, .ref r2_9])), (r2_2, .inl (k3, 14, .inl f3)), (r1_1, .inl (k4, 4, .inl f4))] U.heap ∧ va_K (dC, dI) vwCl [(k3, .int), (k4, .int)] U ∧ va_D (fun _ => True) [(h0, .inr (11, [.ref r0_0, .int v0_1, .ref r0_2, .ref r0_3, .ref r0_4, .ref r0_5, .ref r0_6, .ref r0_7, .ref r0_8, .ref r0_9, .ref r0_10, .ref r0_11, .ref r0_12, .ref r0_13, .ref r0_14, .int v0_15])), (r0_4, .inr (9, [.int v1_0, .ref r1_1, .ref r1_2, .ref r1_3, .ref r1_4, .int v1_5, .ref r1_6, .ref r1_7, .ref r1_8])), (r1_6, .inr (4, [.int v2_0, .int v2_1, .ref r2_2, .ref r2_3, .ref r2_4, .ref r2_5, .ref r2_6, .ref r2_7, .ref r2_8, .ref r2_9])), (r2_2, .inl (k3, 14, .inl f3)), (r1_1, .inl (k4, 4, .inl f4))])) (va_Qi (fun (r : Int32) (u : zV) => ((-1 : Int) ≤ r.toInt ∧ r.toInt ≤ 31) ∧ (r.toInt = -1 ∨ ((0 : Int) ≤ p1.toInt + (0) ∧ (0 : Int) ≤ p3.toInt + (0) ∧ (p1.toInt : Int) ≤ 0 + (13) ∧ (p1.toInt : Int) ≤ v2_0.toInt + (3) ∧ (p2.toInt : Int) ≤ v1_0.toInt + (0) ∧ (p3.toInt : Int) ≤ 0 + (5))) ∧ True) (fun u t => va_P (dC, dI) vwCl [(h0, .inr (11, [.ref r0_0, .int v0_1, .ref r0_2, .ref r0_3, .ref r0_4, .ref r0_5, .ref r0_6, .ref r0_7, .ref r0_8, .ref r0_9, .ref r0_10, .ref r0_11, .ref r0_12, .ref r0_13, .ref r0_14, .int v0_15])), (r0_4, .inr (9, [.int v1_0, .ref r1_1, .ref r1_2, .ref r1_3, .ref r1_4, .int v1_5, .ref r1_6, .ref r1_7, .ref r1_8])), (r1_6, .inr (4, [.int v2_0, .int v2_1, .ref r2_2, .ref r2_3, .ref r2_4, .ref r2_5, .ref r2_6, .ref r2_7, .ref r2_8, .ref r2_9])), (r2_2, .inl (k3, 14, .inl f3)), (r1_1, .inl (k4, 4, .inl f4))] t.heap ∧ va_K (dC, dI) vwCl [(k3, .int), (k4, .int)] t ∧ va_D (va_A [(h0, .inr (11, [.ref r0_0, .int v0_1, .ref r0_2, .ref r0_3, .ref r0_4, .ref r0_5, .ref r0_6, .ref r0_7, .ref r0_8, .ref r0_9, .ref r0_10, .ref r0_11, .ref r0_12, .ref r0_13, .ref r0_14, .int v0_15])), (r0_4, .inr (9, [.int v1_0, .ref r1_1, .ref r1_2, .ref r1_3, .ref r1_4, .int v1_5, .ref r1_6, .ref r1_7, .ref r1_8])), (r1_6, .inr (4, [.int v2_0, .int v2_1, .ref r2_2, .ref r2_3, .ref r2_4, .ref r2_5, .ref r2_6, .ref r2_7, .ref r2_8, .ref r2_9])), (r2_2, .inl (k3, 14, .inl f3)), (r1_1, .inl (k4, 4, .inl f4))] sz) [(h0, .inr (11, [.ref r0_0, .int v0_1, .ref r0_2, .ref r0_3, .ref r0_4, .ref r0_5, .ref r0_6, .ref r0_7, .ref r0_8, .ref r0_9, .ref r0_10, .ref r0_11, .ref r0_12, .ref r0_13, .ref r0_14, .int v0_15])), (r0_4, .inr (9, [.int v1_0, .ref r1_1, .ref r1_2, .ref r1_3, .ref r1_4, .int v1_5, .ref r1_6, .ref r1_7, .ref r1_8])), (r1_6, .inr (4, [.int v2_0, .int v2_1, .ref r2_2, .ref r2_3, .ref r2_4, .ref r2_5, .ref r2_6, .ref r2_7, .ref r2_8, .ref r2_9])), (r2_2, .inl (k3, 14, .inl f3)), (r1_1, .inl (k4, 4, .inl f4))]) (va_A [(h0, .inr (11, [.ref r0_0, .int v0_1, .ref r0_2, .ref r0_3, .ref r0_4, .ref r0_5, .ref r0_6, .ref r0_7, .ref r0_8, .ref r0_9, .ref r0_10, .ref r0_11, .ref r0_12, .ref r0_13, .ref r0_14, .int v0_15])), (r0_4, .inr (9, [.int v1_0, .ref r1_1, .ref r1_2, .ref r1_3, .ref r1_4, .int v1_5, .ref r1_6, .ref r1_7, .ref r1_8])), (r1_6, .inr (4, [.int v2_0, .int v2_1, .ref r2_2, .ref r2_3, .ref r2_4, .ref r2_5, .ref r2_6, .ref r2_7, .ref r2_8, .ref r2_9])), (r2_2, .inl (k3, 14, .inl f3)), (r1_1, .inl (k4, 4, .inl f4))] sz)) 0 0 (va_A [(h0, .inr (11, [.ref r0_0, .int v0_1, .ref r0_2, .ref r0_3, .ref r0_4, .ref r0_5, .ref r0_6, .ref r0_7, .ref r0_8, .ref r0_9, .ref r0_10, .ref r0_11, .ref r0_12, .ref r0_13, .ref r0_14, .int v0_15])), (r0_4, .inr (9, [.int v1_0, .ref r1_1, .ref r1_2, .ref r1_3, .ref r1_4, .int v1_5, .ref r1_6, .ref r1_7, .ref r1_8])), (r1_6, .inr (4, [.int v2_0, .int v2_1, .ref r2_2, .ref r2_3, .ref r2_4, .ref r2_5, .ref r2_6, .ref r2_7, .ref r2_8, .ref r2_9])), (r2_2, .inl (k3, 14, .inl f3)), (r1_1, .inl (k4, 4, .inl f4))] sz) := by
  refine Met.ofW (cc := cX11_letter) (maxL := 6) (ret := (some .int)) (by decide +kernel) rfl ?_
  intro p e s m args below meth c s₁ B hml hv
  obtain ⟨rfl, hsz, hP, hK, hD0⟩ := hv
  have hx := B.exec
  have hb := B.bytes
  have hr := B.returns
  have hts := atoms_spec (ws := wsX11_letter) B.pre
  have hown : s.vm.findClass RX11 = some m.cls := findClass_of_methodNamed B.named
  have hlocks := B.notSynchronized
  subst hsz
  have hD := hD0.self (sz := s.heap.size)
  generalize hAe : va_A [(h0, .inr (11, [.ref r0_0, .int v0_1, .ref r0_2, .ref r0_3, .ref r0_4, .ref r0_5, .ref r0_6, .ref r0_7, .ref r0_8, .ref r0_9, .ref r0_10, .ref r0_11, .ref r0_12, .ref r0_13, .ref r0_14, .int v0_15])), (r0_4, .inr (9, [.int v1_0, .ref r1_1, .ref r1_2, .ref r1_3, .ref r1_4, .int v1_5, .ref r1_6, .ref r1_7, .ref r1_8])), (r1_6, .inr (4, [.int v2_0, .int v2_1, .ref r2_2, .ref r2_3, .ref r2_4, .ref r2_5, .ref r2_6, .ref r2_7, .ref r2_8, .ref r2_9])), (r2_2, .inl (k3, 14, .inl f3)), (r1_1, .inl (k4, 4, .inl f4))] s.heap.size = A at hD ⊢
  have hA : ∀ q : Nat, s.heap.size ≤ q → A q := fun q h => by rw [← hAe]; exact Or.inr h
  have hS : va_S A s.heap s.heap [] := va_S.rf
  have hP : va_P (dC, dI) vwCl [(h0, .inr (11, [.ref r0_0, .int v0_1, .ref r0_2, .ref r0_3, .ref r0_4, .ref r0_5, .ref r0_6, .ref r0_7, .ref r0_8, .ref r0_9, .ref r0_10, .ref r0_11, .ref r0_12, .ref r0_13, .ref r0_14, .int v0_15])), (r0_4, .inr (9, [.int v1_0, .ref r1_1, .ref r1_2, .ref r1_3, .ref r1_4, .int v1_5, .ref r1_6, .ref r1_7, .ref r1_8])), (r1_6, .inr (4, [.int v2_0, .int v2_1, .ref r2_2, .ref r2_3, .ref r2_4, .ref r2_5, .ref r2_6, .ref r2_7, .ref r2_8, .ref r2_9])), (r2_2, .inl (k3, 14, .inl f3)), (r1_1, .inl (k4, 4, .inl f4))] s.heap := hP
  have hl := lv_entry ([.ref h0, .int p1, .int p2, .int p3]) (n := 6) (Nat.le_of_ble_eq_true rfl)
  rw [lg_entry_eq]
  generalize (lg_sl ([.ref h0, .int p1, .int p2, .int p3]) ++ List.replicate (6 - (lg_sl ([.ref h0, .int p1, .int p2, .int p3])).length) Slot.unset).toArray = ls at hl ⊢
  have hl : lv_has ls 6 [(0, .ref h0), (1, .int p1), (2, .int p2), (3, .int p3)] := hl
  generalize hQ : MQ below (va_Qi (fun (r : Int32) (u : zV) => ((-1 : Int) ≤ r.toInt ∧ r.toInt ≤ 31) ∧ (r.toInt = -1 ∨ ((0 : Int) ≤ p1.toInt + (0) ∧ (0 : Int) ≤ p3.toInt + (0) ∧ (p1.toInt : Int) ≤ 0 + (13) ∧ (p1.toInt : Int) ≤ v2_0.toInt + (3) ∧ (p2.toInt : Int) ≤ v1_0.toInt + (0) ∧ (p3.toInt : Int) ≤ 0 + (5))) ∧ True) (fun u t => va_P (dC, dI) vwCl [(h0, .inr (11, [.ref r0_0, .int v0_1, .ref r0_2, .ref r0_3, .ref r0_4, .ref r0_5, .ref r0_6, .ref r0_7, .ref r0_8, .ref r0_9, .ref r0_10, .ref r0_11, .ref r0_12, .ref r0_13, .ref r0_14, .int v0_15])), (r0_4, .inr (9, [.int v1_0, .ref r1_1, .ref r1_2, .ref r1_3, .ref r1_4, .int v1_5, .ref r1_6, .ref r1_7, .ref r1_8])), (r1_6, .inr (4, [.int v2_0, .int v2_1, .ref r2_2, .ref r2_3, .ref r2_4, .ref r2_5, .ref r2_6, .ref r2_7, .ref r2_8, .ref r2_9])), (r2_2, .inl (k3, 14, .inl f3)), (r1_1, .inl (k4, 4, .inl f4))] t.heap ∧ va_K (dC, dI) vwCl [(k3, .int), (k4, .int)] t ∧ va_D A [(h0, .inr (11, [.ref r0_0, .int v0_1, .ref r0_2, .ref r0_3, .ref r0_4, .ref r0_5, .ref r0_6, .ref r0_7, .ref r0_8, .ref r0_9, .ref r0_10, .ref r0_11, .ref r0_12, .ref r0_13, .ref r0_14, .int v0_15])), (r0_4, .inr (9, [.int v1_0, .ref r1_1, .ref r1_2, .ref r1_3, .ref r1_4, .int v1_5, .ref r1_6, .ref r1_7, .ref r1_8])), (r1_6, .inr (4, [.int v2_0, .int v2_1, .ref r2_2, .ref r2_3, .ref r2_4, .ref r2_5, .ref r2_6, .ref r2_7, .ref r2_8, .ref r2_9])), (r2_2, .inl (k3, 14, .inl f3)), (r1_1, .inl (k4, 4, .inl f4))]) A) ([.ref h0, .int p1, .int p2, .int p3] : List Value).toArray s 0 0 A = Q
  refine lv_iload_n hx hb dX11_letter_0 rfl (lv_at hl 2 rfl) ?_
  refine lv_if_eq (tgt := 15) hx hb dX11_letter_1 (by decide) (fun c_1 => ?_) (fun c_1 => ?_)
  · have oc_1 := zk_eq rfl (by decide +kernel : (0 : Int32).toInt = 0) c_1
    refine lv_aload_n hx hb dX11_letter_15 rfl (lv_at hl 0 rfl) ?_
    refine va_get (D := (dC, dI)) (ci := 11) (v := .ref r0_4) (C := RX11) (T := TX11) (N := 16) hx hb hts zn_X11_letter_X11 hown hK hP 0 rfl rfl 4 (by decide) (hts (.fieldLink RX11 27 "ShortEnough" "current" "LShortEnough$Task;") zw_X11_letter_356) (fun _ h9 => h9) rfl dX11_letter_16 ?_
    refine lv_iload_n hx hb dX11_letter_19 rfl (lv_at hl 1 rfl) ?_
    have hPc := hP.sub (ws' := [(r0_4, .inr (9, [.int v1_0, .ref r1_1, .ref r1_2, .ref r1_3, .ref r1_4, .int v1_5, .ref r1_6, .ref r1_7, .ref r1_8])), (r1_6, .inr (4, [.int v2_0, .int v2_1, .ref r2_2, .ref r2_3, .ref r2_4, .ref r2_5, .ref r2_6, .ref r2_7, .ref r2_8, .ref r2_9]))]) [1, 2] rfl
    have hDc := hD.sub (ws' := [(r0_4, .inr (9, [.int v1_0, .ref r1_1, .ref r1_2, .ref r1_3, .ref r1_4, .int v1_5, .ref r1_6, .ref r1_7, .ref r1_8])), (r1_6, .inr (4, [.int v2_0, .int v2_1, .ref r2_2, .ref r2_3, .ref r2_4, .ref r2_5, .ref r2_6, .ref r2_7, .ref r2_8, .ref r2_9]))]) [1, 2] (by decide) rfl
    have hKc := hK.sub (tys' := []) [] rfl
    have hFc := va_free (wc := [(r0_4, .inr (9, [.int v1_0, .ref r1_1, .ref r1_2, .ref r1_3, .ref r1_4, .int v1_5, .ref r1_6, .ref r1_7, .ref r1_8])), (r1_6, .inr (4, [.int v2_0, .int v2_1, .ref r2_2, .ref r2_3, .ref r2_4, .ref r2_5, .ref r2_6, .ref r2_7, .ref r2_8, .ref r2_9]))]) hD hS hA [1, 2] rfl
    refine va_calli (va_runV (As := [.int p1]) (rest := []) ⟨hx, hb, hml, hown, hts⟩ (zs_X9_hasNumber l dC dI r0_4 p1 v1_0 r1_1 r1_2 r1_3 r1_4 v1_5 r1_6 r1_7 r1_8 v2_0 v2_1 r2_2 r2_3 r2_4 r2_5 r2_6 r2_7 r2_8 r2_9 (by omega) (by omega) s.heap.size) (cwV 1 hts gX11_letter_X9_hasNumber rfl rfl rfl (by decide +kernel) ⟨Nat.le_of_ble_eq_true rfl, Nat.le_of_ble_eq_true rfl⟩) ⟨fun a U g mk q => by obtain ⟨q0, q1, qP, qK, qD⟩ := q; exact ⟨q0, q1, qP, va_K.moved (u := U) (U := U.calling g mk a) (Vm.Alike.refl U.vm) qK, qD⟩, va_recv hKc hPc (ci := 9) (q0 := 0) rfl rfl, fun U hU hW => ⟨rfl, by rw [hU], by rw [hU]; exact hPc, va_K.moved hW.alike hKc, hDc.weaken (fun _ _ _ _ => trivial)⟩⟩ rfl rfl hl.1 rfl (lv_room (Nat.le_of_ble_eq_true rfl)) dX11_letter_20 ⟨Nat.le_of_ble_eq_true rfl, Nat.le_of_ble_eq_true rfl⟩) hS (fun q _ h => hFc q h) hFc (fun r_2 u_3 t H1 locs ht hvm hw_4 hB hz1 hk1 hS => ?_)
    obtain ⟨hP1, hK1, hD1⟩ := hB
    rw [ht] at hP1
    have hK1 := va_K.moved hvm.symm hK1
    obtain ⟨hP, hD⟩ := va_join (wr := [(h0, .inr (11, [.ref r0_0, .int v0_1, .ref r0_2, .ref r0_3, .ref r0_4, .ref r0_5, .ref r0_6, .ref r0_7, .ref r0_8, .ref r0_9, .ref r0_10, .ref r0_11, .ref r0_12, .ref r0_13, .ref r0_14, .int v0_15])), (r2_2, .inl (k3, 14, .inl f3)), (r1_1, .inl (k4, 4, .inl f4))]) (w1 := [(r0_4, .inr (9, [.int v1_0, .ref r1_1, .ref r1_2, .ref r1_3, .ref r1_4, .int v1_5, .ref r1_6, .ref r1_7, .ref r1_8])), (r1_6, .inr (4, [.int v2_0, .int v2_1, .ref r2_2, .ref r2_3, .ref r2_4, .ref r2_5, .ref r2_6, .ref r2_7, .ref r2_8, .ref r2_9]))]) hP hD [1, 2] [0, 3, 4] rfl rfl (by decide) (by decide) hk1 hFc hP1 hD1
    have hK := hK
    generalize H1 = H at hP hS ⊢
    have hP := hP.sub (ws' := [(h0, .inr (11, [.ref r0_0, .int v0_1, .ref r0_2, .ref r0_3, .ref r0_4, .ref r0_5, .ref r0_6, .ref r0_7, .ref r0_8, .ref r0_9, .ref r0_10, .ref r0_11, .ref r0_12, .ref r0_13, .ref r0_14, .int v0_15])), (r0_4, .inr (9, [.int v1_0, .ref r1_1, .ref r1_2, .ref r1_3, .ref r1_4, .int v1_5, .ref r1_6, .ref r1_7, .ref r1_8])), (r1_6, .inr (4, [.int v2_0, .int v2_1, .ref r2_2, .ref r2_3, .ref r2_4, .ref r2_5, .ref r2_6, .ref r2_7, .ref r2_8, .ref r2_9])), (r2_2, .inl (k3, 14, .inl f3)), (r1_1, .inl (k4, 4, .inl f4))]) [0, 3, 4, 1, 2] rfl
    have hD := hD.sub (ws' := [(h0, .inr (11, [.ref r0_0, .int v0_1, .ref r0_2, .ref r0_3, .ref r0_4, .ref r0_5, .ref r0_6, .ref r0_7, .ref r0_8, .ref r0_9, .ref r0_10, .ref r0_11, .ref r0_12, .ref r0_13, .ref r0_14, .int v0_15])), (r0_4, .inr (9, [.int v1_0, .ref r1_1, .ref r1_2, .ref r1_3, .ref r1_4, .int v1_5, .ref r1_6, .ref r1_7, .ref r1_8])), (r1_6, .inr (4, [.int v2_0, .int v2_1, .ref r2_2, .ref r2_3, .ref r2_4, .ref r2_5, .ref r2_6, .ref r2_7, .ref r2_8, .ref r2_9])), (r2_2, .inl (k3, 14, .inl f3)), (r1_1, .inl (k4, 4, .inl f4))]) [0, 3, 4, 1, 2] (by decide) rfl
    have hP : va_P (dC, dI) vwCl [(h0, .inr (11, [.ref r0_0, .int v0_1, .ref r0_2, .ref r0_3, .ref r0_4, .ref r0_5, .ref r0_6, .ref r0_7, .ref r0_8, .ref r0_9, .ref r0_10, .ref r0_11, .ref r0_12, .ref r0_13, .ref r0_14, .int v0_15])), (r0_4, .inr (9, [.int v1_0, .ref r1_1, .ref r1_2, .ref r1_3, .ref r1_4, .int v1_5, .ref r1_6, .ref r1_7, .ref r1_8])), (r1_6, .inr (4, [.int v2_0, .int v2_1, .ref r2_2, .ref r2_3, .ref r2_4, .ref r2_5, .ref r2_6, .ref r2_7, .ref r2_8, .ref r2_9])), (r2_2, .inl (k3, 14, .inl f3)), (r1_1, .inl (k4, 4, .inl f4))] H := hP
    have hD : va_D A [(h0, .inr (11, [.ref r0_0, .int v0_1, .ref r0_2, .ref r0_3, .ref r0_4, .ref r0_5, .ref r0_6, .ref r0_7, .ref r0_8, .ref r0_9, .ref r0_10, .ref r0_11, .ref r0_12, .ref r0_13, .ref r0_14, .int v0_15])), (r0_4, .inr (9, [.int v1_0, .ref r1_1, .ref r1_2, .ref r1_3, .ref r1_4, .int v1_5, .ref r1_6, .ref r1_7, .ref r1_8])), (r1_6, .inr (4, [.int v2_0, .int v2_1, .ref r2_2, .ref r2_3, .ref r2_4, .ref r2_5, .ref r2_6, .ref r2_7, .ref r2_8, .ref r2_9])), (r2_2, .inl (k3, 14, .inl f3)), (r1_1, .inl (k4, 4, .inl f4))] := hD
    obtain ⟨hr_2, hir_2, -⟩ := hw_4
    refine lv_istore (lv' := [(4, .int r_2), (0, .ref h0), (1, .int p1), (2, .int p2), (3, .int p3)]) hx hb dX11_letter_23 hl (by decide) rfl (fun ls hl => ?_)
    refine lv_iload hx hb dX11_letter_25 (lv_at hl 0 rfl) ?_
    refine lv_if_eq (tgt := 40) hx hb dX11_letter_27 (by decide) (fun c_5 => ?_) (fun c_5 => ?_)
    · have oc_5 := zk_eq rfl (by decide +kernel : (0 : Int32).toInt = 0) c_5
      refine lv_iconst (v := (-1)) hx hb dX11_letter_40 (by decide +kernel) ?_
      have hP9 := hP.sub (ws' := [(h0, .inr (11, [.ref r0_0, .int v0_1, .ref r0_2, .ref r0_3, .ref r0_4, .ref r0_5, .ref r0_6, .ref r0_7, .ref r0_8, .ref r0_9, .ref r0_10, .ref r0_11, .ref r0_12, .ref r0_13, .ref r0_14, .int v0_15])), (r0_4, .inr (9, [.int v1_0, .ref r1_1, .ref r1_2, .ref r1_3, .ref r1_4, .int v1_5, .ref r1_6, .ref r1_7, .ref r1_8])), (r1_6, .inr (4, [.int v2_0, .int v2_1, .ref r2_2, .ref r2_3, .ref r2_4, .ref r2_5, .ref r2_6, .ref r2_7, .ref r2_8, .ref r2_9])), (r2_2, .inl (k3, 14, .inl f3)), (r1_1, .inl (k4, 4, .inl f4))]) [0, 1, 2, 3, 4] rfl
      have hD9 := hD.sub (ws' := [(h0, .inr (11, [.ref r0_0, .int v0_1, .ref r0_2, .ref r0_3, .ref r0_4, .ref r0_5, .ref r0_6, .ref r0_7, .ref r0_8, .ref r0_9, .ref r0_10, .ref r0_11, .ref r0_12, .ref r0_13, .ref r0_14, .int v0_15])), (r0_4, .inr (9, [.int v1_0, .ref r1_1, .ref r1_2, .ref r1_3, .ref r1_4, .int v1_5, .ref r1_6, .ref r1_7, .ref r1_8])), (r1_6, .inr (4, [.int v2_0, .int v2_1, .ref r2_2, .ref r2_3, .ref r2_4, .ref r2_5, .ref r2_6, .ref r2_7, .ref r2_8, .ref r2_9])), (r2_2, .inl (k3, 14, .inl f3)), (r1_1, .inl (k4, 4, .inl f4))]) [0, 1, 2, 3, 4] (by decide) rfl
      have hK9 := hK.sub (tys' := [(k3, .int), (k4, .int)]) [0, 1] rfl
      rw [← hQ]
      exact W.iret (v := (-1)) hx hb hr (fun t ht hW => ⟨⟨(-1), ((fun k => ([] : List Int32).getD k 0), (fun k => ([] : List (Nat → Int32)).getD k (fun _ => 0)), (fun k => ([] : List (Nat → Int64)).getD k (fun _ => 0))), rfl, ⟨(show (-1 : Int) ≤ ((-1) : Int32).toInt ∧ ((-1) : Int32).toInt ≤ 31 by decide +kernel), (show (((-1) : Int32).toInt = -1 ∨ ((0 : Int) ≤ p1.toInt + (0) ∧ (0 : Int) ≤ p3.toInt + (0) ∧ (p1.toInt : Int) ≤ 0 + (13) ∧ (p1.toInt : Int) ≤ v2_0.toInt + (3) ∧ (p2.toInt : Int) ≤ v1_0.toInt + (0) ∧ (p3.toInt : Int) ≤ 0 + (5))) by exact Or.inl (by decide +kernel)), trivial⟩, by rw [ht]; exact hP9, va_K.moved hW.alike hK9, hD9⟩, hS.F ht⟩) hS.2.2 dX11_letter_41
    have oc_5 := zk_ne rfl (by decide +kernel : (0 : Int32).toInt = 0) c_5
    refine lv_iload_n hx hb dX11_letter_30 rfl (lv_at hl 4 rfl) ?_
    refine lv_if_lt (tgt := 40) hx hb dX11_letter_31 (by decide) (fun c_6 => ?_) (fun c_6 => ?_)
    · have oc_6 := zk_lt rfl (by decide +kernel : (0 : Int32).toInt = 0) c_6
      refine lv_iconst (v := (-1)) hx hb dX11_letter_40 (by decide +kernel) ?_
      have hP9 := hP.sub (ws' := [(h0, .inr (11, [.ref r0_0, .int v0_1, .ref r0_2, .ref r0_3, .ref r0_4, .ref r0_5, .ref r0_6, .ref r0_7, .ref r0_8, .ref r0_9, .ref r0_10, .ref r0_11, .ref r0_12, .ref r0_13, .ref r0_14, .int v0_15])), (r0_4, .inr (9, [.int v1_0, .ref r1_1, .ref r1_2, .ref r1_3, .ref r1_4, .int v1_5, .ref r1_6, .ref r1_7, .ref r1_8])), (r1_6, .inr (4, [.int v2_0, .int v2_1, .ref r2_2, .ref r2_3, .ref r2_4, .ref r2_5, .ref r2_6, .ref r2_7, .ref r2_8, .ref r2_9])), (r2_2, .inl (k3, 14, .inl f3)), (r1_1, .inl (k4, 4, .inl f4))]) [0, 1, 2, 3, 4] rfl
      have hD9 := hD.sub (ws' := [(h0, .inr (11, [.ref r0_0, .int v0_1, .ref r0_2, .ref r0_3, .ref r0_4, .ref r0_5, .ref r0_6, .ref r0_7, .ref r0_8, .ref r0_9, .ref r0_10, .ref r0_11, .ref r0_12, .ref r0_13, .ref r0_14, .int v0_15])), (r0_4, .inr (9, [.int v1_0, .ref r1_1, .ref r1_2, .ref r1_3, .ref r1_4, .int v1_5, .ref r1_6, .ref r1_7, .ref r1_8])), (r1_6, .inr (4, [.int v2_0, .int v2_1, .ref r2_2, .ref r2_3, .ref r2_4, .ref r2_5, .ref r2_6, .ref r2_7, .ref r2_8, .ref r2_9])), (r2_2, .inl (k3, 14, .inl f3)), (r1_1, .inl (k4, 4, .inl f4))]) [0, 1, 2, 3, 4] (by decide) rfl
      have hK9 := hK.sub (tys' := [(k3, .int), (k4, .int)]) [0, 1] rfl
      rw [← hQ]
      exact W.iret (v := (-1)) hx hb hr (fun t ht hW => ⟨⟨(-1), ((fun k => ([] : List Int32).getD k 0), (fun k => ([] : List (Nat → Int32)).getD k (fun _ => 0)), (fun k => ([] : List (Nat → Int64)).getD k (fun _ => 0))), rfl, ⟨(show (-1 : Int) ≤ ((-1) : Int32).toInt ∧ ((-1) : Int32).toInt ≤ 31 by decide +kernel), (show (((-1) : Int32).toInt = -1 ∨ ((0 : Int) ≤ p1.toInt + (0) ∧ (0 : Int) ≤ p3.toInt + (0) ∧ (p1.toInt : Int) ≤ 0 + (13) ∧ (p1.toInt : Int) ≤ v2_0.toInt + (3) ∧ (p2.toInt : Int) ≤ v1_0.toInt + (0) ∧ (p3.toInt : Int) ≤ 0 + (5))) by exact Or.inl (by decide +kernel)), trivial⟩, by rw [ht]; exact hP9, va_K.moved hW.alike hK9, hD9⟩, hS.F ht⟩) hS.2.2 dX11_letter_41
    have oc_6 := zk_nlt rfl (by decide +kernel : (0 : Int32).toInt = 0) c_6
    refine lv_iload_n hx hb dX11_letter_34 rfl (lv_at hl 4 rfl) ?_
    refine lv_bipush (v := 6) hx hb dX11_letter_35 (by decide +kernel) ?_
    refine lv_icmp_lt (tgt := 42) hx hb dX11_letter_37 (by decide) (fun c_7 => ?_) (fun c_7 => ?_)
    · have oc_7 := zk_lt rfl (by decide +kernel : (6 : Int32).toInt = 6) c_7
      refine lv_iload_n hx hb dX11_letter_42 rfl (lv_at hl 3 rfl) ?_
      refine lv_if_eq (tgt := 58) hx hb dX11_letter_43 (by decide) (fun c_8 => ?_) (fun c_8 => by exfalso; have oc_8 := zk_ne rfl (by decide +kernel : (0 : Int32).toInt = 0) c_8; omega)
      have oc_8 := zk_eq rfl (by decide +kernel : (0 : Int32).toInt = 0) c_8
      refine lv_aload_n hx hb dX11_letter_58 rfl (lv_at hl 1 rfl) ?_
      refine va_get (D := (dC, dI)) (ci := 11) (v := .ref r0_4) (C := RX11) (T := TX11) (N := 16) hx hb hts zn_X11_letter_X11 hown hK hP 0 rfl rfl 4 (by decide) (hts (.fieldLink RX11 27 "ShortEnough" "current" "LShortEnough$Task;") zw_X11_letter_356) (fun _ h9 => h9) rfl dX11_letter_59 ?_
      refine va_get (D := (dC, dI)) (ci := 9) (v := .ref r1_6) (C := RX9) (T := TX9) (N := 9) hx hb hts zn_X11_letter_X9 hown hK hP 1 rfl rfl 6 (by decide) (hts (.fieldLink RX11 122 "ShortEnough$Task" "numbers" "LShortEnough$Numbers;") zw_X11_letter_358) (fun _ h9 => h9) rfl dX11_letter_62 ?_
      refine va_get (D := (dC, dI)) (ci := 4) (v := .ref r2_2) (C := RX4) (T := TX4) (N := 10) hx hb hts zn_X11_letter_X4 hown hK hP 2 rfl rfl 2 (by decide) (hts (.fieldLink RX11 163 "ShortEnough$Numbers" "name" "[I") zw_X11_letter_360) (fun _ h9 => h9) rfl dX11_letter_65 ?_
      refine lv_iload_n hx hb dX11_letter_68 rfl (lv_at hl 2 rfl) ?_
      refine va_iald hx hb hK hP 3 0 rfl rfl (vp_in_iff.mpr ⟨by omega, by omega⟩) dX11_letter_69 ?_
      refine lv_topi (fun x_9 ex_9 => ?_)
      refine lv_istore (lv' := [(5, .int x_9), (4, .int r_2), (0, .ref h0), (1, .int p1), (2, .int p2), (3, .int p3)]) hx hb dX11_letter_70 hl (by decide) rfl (fun ls hl => ?_)
      refine lv_iload hx hb dX11_letter_72 (lv_at hl 0 rfl) ?_
      refine lv_iload_n hx hb dX11_letter_74 rfl (lv_at hl 5 rfl) ?_
      have hPc := hP.sub (ws' := []) [] rfl
      have hDc := hD.sub (ws' := []) [] (by decide) rfl
      have hKc := hK.sub (tys' := []) [] rfl
      have hFc := va_free (wc := []) hD hS hA [] rfl
      refine va_calli (va_runS (As := [.int x_9, .int p3]) (rest := []) ⟨hx, hb, hml, hown, hts⟩ (zs_X11_letterOf l dC dI x_9 p3  H.size) (va_cwS 2 hts gX11_letter_X11_letterOf rfl rfl rfl (by decide +kernel) ⟨Nat.le_of_ble_eq_true rfl, Nat.le_of_ble_eq_true rfl⟩) ⟨fun a U g mk q => by obtain ⟨q0, q1, qP, qK, qD⟩ := q; exact ⟨q0, q1, qP, va_K.moved (u := U) (U := U.calling g mk a) (Vm.Alike.refl U.vm) qK, qD⟩, fun U hU hW => ⟨rfl, by rw [hU], by rw [hU]; exact hPc, va_K.moved hW.alike hKc, hDc.weaken (fun _ _ _ _ => trivial)⟩⟩ rfl rfl hl.1 rfl (lv_room (Nat.le_of_ble_eq_true rfl)) dX11_letter_75 ⟨Nat.le_of_ble_eq_true rfl, Nat.le_of_ble_eq_true rfl⟩) hS (fun q _ h => hFc q h) hFc (fun r_10 u_11 t H1 locs ht hvm hw_12 hB hz1 hk1 hS => ?_)
      obtain ⟨hP1, hK1, hD1⟩ := hB
      rw [ht] at hP1
      have hK1 := va_K.moved hvm.symm hK1
      obtain ⟨hP, hD⟩ := va_join (wr := [(h0, .inr (11, [.ref r0_0, .int v0_1, .ref r0_2, .ref r0_3, .ref r0_4, .ref r0_5, .ref r0_6, .ref r0_7, .ref r0_8, .ref r0_9, .ref r0_10, .ref r0_11, .ref r0_12, .ref r0_13, .ref r0_14, .int v0_15])), (r0_4, .inr (9, [.int v1_0, .ref r1_1, .ref r1_2, .ref r1_3, .ref r1_4, .int v1_5, .ref r1_6, .ref r1_7, .ref r1_8])), (r1_6, .inr (4, [.int v2_0, .int v2_1, .ref r2_2, .ref r2_3, .ref r2_4, .ref r2_5, .ref r2_6, .ref r2_7, .ref r2_8, .ref r2_9])), (r2_2, .inl (k3, 14, .inl f3)), (r1_1, .inl (k4, 4, .inl f4))]) (w1 := []) hP hD [] [0, 1, 2, 3, 4] rfl rfl (by decide) (by decide) hk1 hFc hP1 hD1
      have hK := hK
      generalize H1 = H at hP hS ⊢
      have hP := hP.sub (ws' := [(h0, .inr (11, [.ref r0_0, .int v0_1, .ref r0_2, .ref r0_3, .ref r0_4, .ref r0_5, .ref r0_6, .ref r0_7, .ref r0_8, .ref r0_9, .ref r0_10, .ref r0_11, .ref r0_12, .ref r0_13, .ref r0_14, .int v0_15])), (r0_4, .inr (9, [.int v1_0, .ref r1_1, .ref r1_2, .ref r1_3, .ref r1_4, .int v1_5, .ref r1_6, .ref r1_7, .ref r1_8])), (r1_6, .inr (4, [.int v2_0, .int v2_1, .ref r2_2, .ref r2_3, .ref r2_4, .ref r2_5, .ref r2_6, .ref r2_7, .ref r2_8, .ref r2_9])), (r2_2, .inl (k3, 14, .inl f3)), (r1_1, .inl (k4, 4, .inl f4))]) [0, 1, 2, 3, 4] rfl
      have hD := hD.sub (ws' := [(h0, .inr (11, [.ref r0_0, .int v0_1, .ref r0_2, .ref r0_3, .ref r0_4, .ref r0_5, .ref r0_6, .ref r0_7, .ref r0_8, .ref r0_9, .ref r0_10, .ref r0_11, .ref r0_12, .ref r0_13, .ref r0_14, .int v0_15])), (r0_4, .inr (9, [.int v1_0, .ref r1_1, .ref r1_2, .ref r1_3, .ref r1_4, .int v1_5, .ref r1_6, .ref r1_7, .ref r1_8])), (r1_6, .inr (4, [.int v2_0, .int v2_1, .ref r2_2, .ref r2_3, .ref r2_4, .ref r2_5, .ref r2_6, .ref r2_7, .ref r2_8, .ref r2_9])), (r2_2, .inl (k3, 14, .inl f3)), (r1_1, .inl (k4, 4, .inl f4))]) [0, 1, 2, 3, 4] (by decide) rfl
      have hP : va_P (dC, dI) vwCl [(h0, .inr (11, [.ref r0_0, .int v0_1, .ref r0_2, .ref r0_3, .ref r0_4, .ref r0_5, .ref r0_6, .ref r0_7, .ref r0_8, .ref r0_9, .ref r0_10, .ref r0_11, .ref r0_12, .ref r0_13, .ref r0_14, .int v0_15])), (r0_4, .inr (9, [.int v1_0, .ref r1_1, .ref r1_2, .ref r1_3, .ref r1_4, .int v1_5, .ref r1_6, .ref r1_7, .ref r1_8])), (r1_6, .inr (4, [.int v2_0, .int v2_1, .ref r2_2, .ref r2_3, .ref r2_4, .ref r2_5, .ref r2_6, .ref r2_7, .ref r2_8, .ref r2_9])), (r2_2, .inl (k3, 14, .inl f3)), (r1_1, .inl (k4, 4, .inl f4))] H := hP
      have hD : va_D A [(h0, .inr (11, [.ref r0_0, .int v0_1, .ref r0_2, .ref r0_3, .ref r0_4, .ref r0_5, .ref r0_6, .ref r0_7, .ref r0_8, .ref r0_9, .ref r0_10, .ref r0_11, .ref r0_12, .ref r0_13, .ref r0_14, .int v0_15])), (r0_4, .inr (9, [.int v1_0, .ref r1_1, .ref r1_2, .ref r1_3, .ref r1_4, .int v1_5, .ref r1_6, .ref r1_7, .ref r1_8])), (r1_6, .inr (4, [.int v2_0, .int v2_1, .ref r2_2, .ref r2_3, .ref r2_4, .ref r2_5, .ref r2_6, .ref r2_7, .ref r2_8, .ref r2_9])), (r2_2, .inl (k3, 14, .inl f3)), (r1_1, .inl (k4, 4, .inl f4))] := hD
      obtain ⟨hr_10, -⟩ := hw_12
      have hP9 := hP.sub (ws' := [(h0, .inr (11, [.ref r0_0, .int v0_1, .ref r0_2, .ref r0_3, .ref r0_4, .ref r0_5, .ref r0_6, .ref r0_7, .ref r0_8, .ref r0_9, .ref r0_10, .ref r0_11, .ref r0_12, .ref r0_13, .ref r0_14, .int v0_15])), (r0_4, .inr (9, [.int v1_0, .ref r1_1, .ref r1_2, .ref r1_3, .ref r1_4, .int v1_5, .ref r1_6, .ref r1_7, .ref r1_8])), (r1_6, .inr (4, [.int v2_0, .int v2_1, .ref r2_2, .ref r2_3, .ref r2_4, .ref r2_5, .ref r2_6, .ref r2_7, .ref r2_8, .ref r2_9])), (r2_2, .inl (k3, 14, .inl f3)), (r1_1, .inl (k4, 4, .inl f4))]) [0, 1, 2, 3, 4] rfl
      have hD9 := hD.sub (ws' := [(h0, .inr (11, [.ref r0_0, .int v0_1, .ref r0_2, .ref r0_3, .ref r0_4, .ref r0_5, .ref r0_6, .ref r0_7, .ref r0_8, .ref r0_9, .ref r0_10, .ref r0_11, .ref r0_12, .ref r0_13, .ref r0_14, .int v0_15])), (r0_4, .inr (9, [.int v1_0, .ref r1_1, .ref r1_2, .ref r1_3, .ref r1_4, .int v1_5, .ref r1_6, .ref r1_7, .ref r1_8])), (r1_6, .inr (4, [.int v2_0, .int v2_1, .ref r2_2, .ref r2_3, .ref r2_4, .ref r2_5, .ref r2_6, .ref r2_7, .ref r2_8, .ref r2_9])), (r2_2, .inl (k3, 14, .inl f3)), (r1_1, .inl (k4, 4, .inl f4))]) [0, 1, 2, 3, 4] (by decide) rfl
      have hK9 := hK.sub (tys' := [(k3, .int), (k4, .int)]) [0, 1] rfl
      rw [← hQ]
      exact W.iret (v := r_10) hx hb hr (fun t ht hW => ⟨⟨r_10, ((fun k => ([] : List Int32).getD k 0), (fun k => ([] : List (Nat → Int32)).getD k (fun _ => 0)), (fun k => ([] : List (Nat → Int64)).getD k (fun _ => 0))), rfl, ⟨(show (-1 : Int) ≤ (r_10 : Int32).toInt ∧ (r_10 : Int32).toInt ≤ 31 by omega), (show ((r_10 : Int32).toInt = -1 ∨ ((0 : Int) ≤ p1.toInt + (0) ∧ (0 : Int) ≤ p3.toInt + (0) ∧ (p1.toInt : Int) ≤ 0 + (13) ∧ (p1.toInt : Int) ≤ v2_0.toInt + (3) ∧ (p2.toInt : Int) ≤ v1_0.toInt + (0) ∧ (p3.toInt : Int) ≤ 0 + (5))) by omega), trivial⟩, by rw [ht]; exact hP9, va_K.moved hW.alike hK9, hD9⟩, hS.F ht⟩) hS.2.2 dX11_letter_78
    have oc_7 := zk_nlt rfl (by decide +kernel : (6 : Int32).toInt = 6) c_7
    refine lv_iconst (v := (-1)) hx hb dX11_letter_40 (by decide +kernel) ?_
    have hP9 := hP.sub (ws' := [(h0, .inr (11, [.ref r0_0, .int v0_1, .ref r0_2, .ref r0_3, .ref r0_4, .ref r0_5, .ref r0_6, .ref r0_7, .ref r0_8, .ref r0_9, .ref r0_10, .ref r0_11, .ref r0_12, .ref r0_13, .ref r0_14, .int v0_15])), (r0_4, .inr (9, [.int v1_0, .ref r1_1, .ref r1_2, .ref r1_3, .ref r1_4, .int v1_5, .ref r1_6, .ref r1_7, .ref r1_8])), (r1_6, .inr (4, [.int v2_0, .int v2_1, .ref r2_2, .ref r2_3, .ref r2_4, .ref r2_5, .ref r2_6, .ref r2_7, .ref r2_8, .ref r2_9])), (r2_2, .inl (k3, 14, .inl f3)), (r1_1, .inl (k4, 4, .inl f4))]) [0, 1, 2, 3, 4] rfl
    have hD9 := hD.sub (ws' := [(h0, .inr (11, [.ref r0_0, .int v0_1, .ref r0_2, .ref r0_3, .ref r0_4, .ref r0_5, .ref r0_6, .ref r0_7, .ref r0_8, .ref r0_9, .ref r0_10, .ref r0_11, .ref r0_12, .ref r0_13, .ref r0_14, .int v0_15])), (r0_4, .inr (9, [.int v1_0, .ref r1_1, .ref r1_2, .ref r1_3, .ref r1_4, .int v1_5, .ref r1_6, .ref r1_7, .ref r1_8])), (r1_6, .inr (4, [.int v2_0, .int v2_1, .ref r2_2, .ref r2_3, .ref r2_4, .ref r2_5, .ref r2_6, .ref r2_7, .ref r2_8, .ref r2_9])), (r2_2, .inl (k3, 14, .inl f3)), (r1_1, .inl (k4, 4, .inl f4))]) [0, 1, 2, 3, 4] (by decide) rfl
    have hK9 := hK.sub (tys' := [(k3, .int), (k4, .int)]) [0, 1] rfl
    rw [← hQ]
    exact W.iret (v := (-1)) hx hb hr (fun t ht hW => ⟨⟨(-1), ((fun k => ([] : List Int32).getD k 0), (fun k => ([] : List (Nat → Int32)).getD k (fun _ => 0)), (fun k => ([] : List (Nat → Int64)).getD k (fun _ => 0))), rfl, ⟨(show (-1 : Int) ≤ ((-1) : Int32).toInt ∧ ((-1) : Int32).toInt ≤ 31 by decide +kernel), (show (((-1) : Int32).toInt = -1 ∨ ((0 : Int) ≤ p1.toInt + (0) ∧ (0 : Int) ≤ p3.toInt + (0) ∧ (p1.toInt : Int) ≤ 0 + (13) ∧ (p1.toInt : Int) ≤ v2_0.toInt + (3) ∧ (p2.toInt : Int) ≤ v1_0.toInt + (0) ∧ (p3.toInt : Int) ≤ 0 + (5))) by exact Or.inl (by decide +kernel)), trivial⟩, by rw [ht]; exact hP9, va_K.moved hW.alike hK9, hD9⟩, hS.F ht⟩) hS.2.2 dX11_letter_41
  have oc_1 := zk_ne rfl (by decide +kernel : (0 : Int32).toInt = 0) c_1
  refine lv_aload_n hx hb dX11_letter_4 rfl (lv_at hl 0 rfl) ?_
  refine va_get (D := (dC, dI)) (ci := 11) (v := .ref r0_4) (C := RX11) (T := TX11) (N := 16) hx hb hts zn_X11_letter_X11 hown hK hP 0 rfl rfl 4 (by decide) (hts (.fieldLink RX11 27 "ShortEnough" "current" "LShortEnough$Task;") zw_X11_letter_356) (fun _ h9 => h9) rfl dX11_letter_5 ?_
  refine lv_iload_n hx hb dX11_letter_8 rfl (lv_at hl 1 rfl) ?_
  have hPc := hP.sub (ws' := [(r0_4, .inr (9, [.int v1_0, .ref r1_1, .ref r1_2, .ref r1_3, .ref r1_4, .int v1_5, .ref r1_6, .ref r1_7, .ref r1_8]))]) [1] rfl
  have hDc := hD.sub (ws' := [(r0_4, .inr (9, [.int v1_0, .ref r1_1, .ref r1_2, .ref r1_3, .ref r1_4, .int v1_5, .ref r1_6, .ref r1_7, .ref r1_8]))]) [1] (by decide) rfl
  have hKc := hK.sub (tys' := []) [] rfl
  have hFc := va_free (wc := [(r0_4, .inr (9, [.int v1_0, .ref r1_1, .ref r1_2, .ref r1_3, .ref r1_4, .int v1_5, .ref r1_6, .ref r1_7, .ref r1_8]))]) hD hS hA [1] rfl
  refine va_calli (va_runV (As := [.int p1]) (rest := []) ⟨hx, hb, hml, hown, hts⟩ (zs_X9_hasFormat l dC dI r0_4 p1 v1_0 r1_1 r1_2 r1_3 r1_4 v1_5 r1_6 r1_7 r1_8 (by omega) s.heap.size) (cwV 1 hts gX11_letter_X9_hasFormat rfl rfl rfl (by decide +kernel) ⟨Nat.le_of_ble_eq_true rfl, Nat.le_of_ble_eq_true rfl⟩) ⟨fun a U g mk q => by obtain ⟨q0, q1, qP, qK, qD⟩ := q; exact ⟨q0, q1, qP, va_K.moved (u := U) (U := U.calling g mk a) (Vm.Alike.refl U.vm) qK, qD⟩, va_recv hKc hPc (ci := 9) (q0 := 0) rfl rfl, fun U hU hW => ⟨rfl, by rw [hU], by rw [hU]; exact hPc, va_K.moved hW.alike hKc, hDc.weaken (fun _ _ _ _ => trivial)⟩⟩ rfl rfl hl.1 rfl (lv_room (Nat.le_of_ble_eq_true rfl)) dX11_letter_9 ⟨Nat.le_of_ble_eq_true rfl, Nat.le_of_ble_eq_true rfl⟩) hS (fun q _ h => hFc q h) hFc (fun r_13 u_14 t H1 locs ht hvm hw_15 hB hz1 hk1 hS => ?_)
  obtain ⟨hP1, hK1, hD1⟩ := hB
  rw [ht] at hP1
  have hK1 := va_K.moved hvm.symm hK1
  obtain ⟨hP, hD⟩ := va_join (wr := [(h0, .inr (11, [.ref r0_0, .int v0_1, .ref r0_2, .ref r0_3, .ref r0_4, .ref r0_5, .ref r0_6, .ref r0_7, .ref r0_8, .ref r0_9, .ref r0_10, .ref r0_11, .ref r0_12, .ref r0_13, .ref r0_14, .int v0_15])), (r1_6, .inr (4, [.int v2_0, .int v2_1, .ref r2_2, .ref r2_3, .ref r2_4, .ref r2_5, .ref r2_6, .ref r2_7, .ref r2_8, .ref r2_9])), (r2_2, .inl (k3, 14, .inl f3)), (r1_1, .inl (k4, 4, .inl f4))]) (w1 := [(r0_4, .inr (9, [.int v1_0, .ref r1_1, .ref r1_2, .ref r1_3, .ref r1_4, .int v1_5, .ref r1_6, .ref r1_7, .ref r1_8]))]) hP hD [1] [0, 2, 3, 4] rfl rfl (by decide) (by decide) hk1 hFc hP1 hD1
  have hK := hK
  generalize H1 = H at hP hS ⊢
  have hP := hP.sub (ws' := [(h0, .inr (11, [.ref r0_0, .int v0_1, .ref r0_2, .ref r0_3, .ref r0_4, .ref r0_5, .ref r0_6, .ref r0_7, .ref r0_8, .ref r0_9, .ref r0_10, .ref r0_11, .ref r0_12, .ref r0_13, .ref r0_14, .int v0_15])), (r0_4, .inr (9, [.int v1_0, .ref r1_1, .ref r1_2, .ref r1_3, .ref r1_4, .int v1_5, .ref r1_6, .ref r1_7, .ref r1_8])), (r1_6, .inr (4, [.int v2_0, .int v2_1, .ref r2_2, .ref r2_3, .ref r2_4, .ref r2_5, .ref r2_6, .ref r2_7, .ref r2_8, .ref r2_9])), (r2_2, .inl (k3, 14, .inl f3)), (r1_1, .inl (k4, 4, .inl f4))]) [0, 4, 1, 2, 3] rfl
  have hD := hD.sub (ws' := [(h0, .inr (11, [.ref r0_0, .int v0_1, .ref r0_2, .ref r0_3, .ref r0_4, .ref r0_5, .ref r0_6, .ref r0_7, .ref r0_8, .ref r0_9, .ref r0_10, .ref r0_11, .ref r0_12, .ref r0_13, .ref r0_14, .int v0_15])), (r0_4, .inr (9, [.int v1_0, .ref r1_1, .ref r1_2, .ref r1_3, .ref r1_4, .int v1_5, .ref r1_6, .ref r1_7, .ref r1_8])), (r1_6, .inr (4, [.int v2_0, .int v2_1, .ref r2_2, .ref r2_3, .ref r2_4, .ref r2_5, .ref r2_6, .ref r2_7, .ref r2_8, .ref r2_9])), (r2_2, .inl (k3, 14, .inl f3)), (r1_1, .inl (k4, 4, .inl f4))]) [0, 4, 1, 2, 3] (by decide) rfl
  have hP : va_P (dC, dI) vwCl [(h0, .inr (11, [.ref r0_0, .int v0_1, .ref r0_2, .ref r0_3, .ref r0_4, .ref r0_5, .ref r0_6, .ref r0_7, .ref r0_8, .ref r0_9, .ref r0_10, .ref r0_11, .ref r0_12, .ref r0_13, .ref r0_14, .int v0_15])), (r0_4, .inr (9, [.int v1_0, .ref r1_1, .ref r1_2, .ref r1_3, .ref r1_4, .int v1_5, .ref r1_6, .ref r1_7, .ref r1_8])), (r1_6, .inr (4, [.int v2_0, .int v2_1, .ref r2_2, .ref r2_3, .ref r2_4, .ref r2_5, .ref r2_6, .ref r2_7, .ref r2_8, .ref r2_9])), (r2_2, .inl (k3, 14, .inl f3)), (r1_1, .inl (k4, 4, .inl f4))] H := hP
  have hD : va_D A [(h0, .inr (11, [.ref r0_0, .int v0_1, .ref r0_2, .ref r0_3, .ref r0_4, .ref r0_5, .ref r0_6, .ref r0_7, .ref r0_8, .ref r0_9, .ref r0_10, .ref r0_11, .ref r0_12, .ref r0_13, .ref r0_14, .int v0_15])), (r0_4, .inr (9, [.int v1_0, .ref r1_1, .ref r1_2, .ref r1_3, .ref r1_4, .int v1_5, .ref r1_6, .ref r1_7, .ref r1_8])), (r1_6, .inr (4, [.int v2_0, .int v2_1, .ref r2_2, .ref r2_3, .ref r2_4, .ref r2_5, .ref r2_6, .ref r2_7, .ref r2_8, .ref r2_9])), (r2_2, .inl (k3, 14, .inl f3)), (r1_1, .inl (k4, 4, .inl f4))] := hD
  obtain ⟨hr_13, hir_13, -⟩ := hw_15
  refine lv_goto (tgt := 23) hx hb dX11_letter_12 (by decide) ?_
  refine lv_istore (lv' := [(4, .int r_13), (0, .ref h0), (1, .int p1), (2, .int p2), (3, .int p3)]) hx hb dX11_letter_23 hl (by decide) rfl (fun ls hl => ?_)
  refine lv_iload hx hb dX11_letter_25 (lv_at hl 0 rfl) ?_
  refine lv_if_eq (tgt := 40) hx hb dX11_letter_27 (by decide) (fun c_16 => ?_) (fun c_16 => ?_)
  · have oc_16 := zk_eq rfl (by decide +kernel : (0 : Int32).toInt = 0) c_16
    refine lv_iconst (v := (-1)) hx hb dX11_letter_40 (by decide +kernel) ?_
    have hP9 := hP.sub (ws' := [(h0, .inr (11, [.ref r0_0, .int v0_1, .ref r0_2, .ref r0_3, .ref r0_4, .ref r0_5, .ref r0_6, .ref r0_7, .ref r0_8, .ref r0_9, .ref r0_10, .ref r0_11, .ref r0_12, .ref r0_13, .ref r0_14, .int v0_15])), (r0_4, .inr (9, [.int v1_0, .ref r1_1, .ref r1_2, .ref r1_3, .ref r1_4, .int v1_5, .ref r1_6, .ref r1_7, .ref r1_8])), (r1_6, .inr (4, [.int v2_0, .int v2_1, .ref r2_2, .ref r2_3, .ref r2_4, .ref r2_5, .ref r2_6, .ref r2_7, .ref r2_8, .ref r2_9])), (r2_2, .inl (k3, 14, .inl f3)), (r1_1, .inl (k4, 4, .inl f4))]) [0, 1, 2, 3, 4] rfl
    have hD9 := hD.sub (ws' := [(h0, .inr (11, [.ref r0_0, .int v0_1, .ref r0_2, .ref r0_3, .ref r0_4, .ref r0_5, .ref r0_6, .ref r0_7, .ref r0_8, .ref r0_9, .ref r0_10, .ref r0_11, .ref r0_12, .ref r0_13, .ref r0_14, .int v0_15])), (r0_4, .inr (9, [.int v1_0, .ref r1_1, .ref r1_2, .ref r1_3, .ref r1_4, .int v1_5, .ref r1_6, .ref r1_7, .ref r1_8])), (r1_6, .inr (4, [.int v2_0, .int v2_1, .ref r2_2, .ref r2_3, .ref r2_4, .ref r2_5, .ref r2_6, .ref r2_7, .ref r2_8, .ref r2_9])), (r2_2, .inl (k3, 14, .inl f3)), (r1_1, .inl (k4, 4, .inl f4))]) [0, 1, 2, 3, 4] (by decide) rfl
    have hK9 := hK.sub (tys' := [(k3, .int), (k4, .int)]) [0, 1] rfl
    rw [← hQ]
    exact W.iret (v := (-1)) hx hb hr (fun t ht hW => ⟨⟨(-1), ((fun k => ([] : List Int32).getD k 0), (fun k => ([] : List (Nat → Int32)).getD k (fun _ => 0)), (fun k => ([] : List (Nat → Int64)).getD k (fun _ => 0))), rfl, ⟨(show (-1 : Int) ≤ ((-1) : Int32).toInt ∧ ((-1) : Int32).toInt ≤ 31 by decide +kernel), (show (((-1) : Int32).toInt = -1 ∨ ((0 : Int) ≤ p1.toInt + (0) ∧ (0 : Int) ≤ p3.toInt + (0) ∧ (p1.toInt : Int) ≤ 0 + (13) ∧ (p1.toInt : Int) ≤ v2_0.toInt + (3) ∧ (p2.toInt : Int) ≤ v1_0.toInt + (0) ∧ (p3.toInt : Int) ≤ 0 + (5))) by exact Or.inl (by decide +kernel)), trivial⟩, by rw [ht]; exact hP9, va_K.moved hW.alike hK9, hD9⟩, hS.F ht⟩) hS.2.2 dX11_letter_41
  have oc_16 := zk_ne rfl (by decide +kernel : (0 : Int32).toInt = 0) c_16
  refine lv_iload_n hx hb dX11_letter_30 rfl (lv_at hl 4 rfl) ?_
  refine lv_if_lt (tgt := 40) hx hb dX11_letter_31 (by decide) (fun c_17 => ?_) (fun c_17 => ?_)
  · have oc_17 := zk_lt rfl (by decide +kernel : (0 : Int32).toInt = 0) c_17
    refine lv_iconst (v := (-1)) hx hb dX11_letter_40 (by decide +kernel) ?_
    have hP9 := hP.sub (ws' := [(h0, .inr (11, [.ref r0_0, .int v0_1, .ref r0_2, .ref r0_3, .ref r0_4, .ref r0_5, .ref r0_6, .ref r0_7, .ref r0_8, .ref r0_9, .ref r0_10, .ref r0_11, .ref r0_12, .ref r0_13, .ref r0_14, .int v0_15])), (r0_4, .inr (9, [.int v1_0, .ref r1_1, .ref r1_2, .ref r1_3, .ref r1_4, .int v1_5, .ref r1_6, .ref r1_7, .ref r1_8])), (r1_6, .inr (4, [.int v2_0, .int v2_1, .ref r2_2, .ref r2_3, .ref r2_4, .ref r2_5, .ref r2_6, .ref r2_7, .ref r2_8, .ref r2_9])), (r2_2, .inl (k3, 14, .inl f3)), (r1_1, .inl (k4, 4, .inl f4))]) [0, 1, 2, 3, 4] rfl
    have hD9 := hD.sub (ws' := [(h0, .inr (11, [.ref r0_0, .int v0_1, .ref r0_2, .ref r0_3, .ref r0_4, .ref r0_5, .ref r0_6, .ref r0_7, .ref r0_8, .ref r0_9, .ref r0_10, .ref r0_11, .ref r0_12, .ref r0_13, .ref r0_14, .int v0_15])), (r0_4, .inr (9, [.int v1_0, .ref r1_1, .ref r1_2, .ref r1_3, .ref r1_4, .int v1_5, .ref r1_6, .ref r1_7, .ref r1_8])), (r1_6, .inr (4, [.int v2_0, .int v2_1, .ref r2_2, .ref r2_3, .ref r2_4, .ref r2_5, .ref r2_6, .ref r2_7, .ref r2_8, .ref r2_9])), (r2_2, .inl (k3, 14, .inl f3)), (r1_1, .inl (k4, 4, .inl f4))]) [0, 1, 2, 3, 4] (by decide) rfl
    have hK9 := hK.sub (tys' := [(k3, .int), (k4, .int)]) [0, 1] rfl
    rw [← hQ]
    exact W.iret (v := (-1)) hx hb hr (fun t ht hW => ⟨⟨(-1), ((fun k => ([] : List Int32).getD k 0), (fun k => ([] : List (Nat → Int32)).getD k (fun _ => 0)), (fun k => ([] : List (Nat → Int64)).getD k (fun _ => 0))), rfl, ⟨(show (-1 : Int) ≤ ((-1) : Int32).toInt ∧ ((-1) : Int32).toInt ≤ 31 by decide +kernel), (show (((-1) : Int32).toInt = -1 ∨ ((0 : Int) ≤ p1.toInt + (0) ∧ (0 : Int) ≤ p3.toInt + (0) ∧ (p1.toInt : Int) ≤ 0 + (13) ∧ (p1.toInt : Int) ≤ v2_0.toInt + (3) ∧ (p2.toInt : Int) ≤ v1_0.toInt + (0) ∧ (p3.toInt : Int) ≤ 0 + (5))) by exact Or.inl (by decide +kernel)), trivial⟩, by rw [ht]; exact hP9, va_K.moved hW.alike hK9, hD9⟩, hS.F ht⟩) hS.2.2 dX11_letter_41
  have oc_17 := zk_nlt rfl (by decide +kernel : (0 : Int32).toInt = 0) c_17
  refine lv_iload_n hx hb dX11_letter_34 rfl (lv_at hl 4 rfl) ?_
  refine lv_bipush (v := 6) hx hb dX11_letter_35 (by decide +kernel) ?_
  refine lv_icmp_lt (tgt := 42) hx hb dX11_letter_37 (by decide) (fun c_18 => ?_) (fun c_18 => ?_)
  · have oc_18 := zk_lt rfl (by decide +kernel : (6 : Int32).toInt = 6) c_18
    refine lv_iload_n hx hb dX11_letter_42 rfl (lv_at hl 3 rfl) ?_
    refine lv_if_eq (tgt := 58) hx hb dX11_letter_43 (by decide) (fun c_19 => by exfalso; have oc_19 := zk_eq rfl (by decide +kernel : (0 : Int32).toInt = 0) c_19; omega) (fun c_19 => ?_)
    have oc_19 := zk_ne rfl (by decide +kernel : (0 : Int32).toInt = 0) c_19
    refine lv_aload_n hx hb dX11_letter_46 rfl (lv_at hl 1 rfl) ?_
    refine va_get (D := (dC, dI)) (ci := 11) (v := .ref r0_4) (C := RX11) (T := TX11) (N := 16) hx hb hts zn_X11_letter_X11 hown hK hP 0 rfl rfl 4 (by decide) (hts (.fieldLink RX11 27 "ShortEnough" "current" "LShortEnough$Task;") zw_X11_letter_356) (fun _ h9 => h9) rfl dX11_letter_47 ?_
    refine va_get (D := (dC, dI)) (ci := 9) (v := .ref r1_1) (C := RX9) (T := TX9) (N := 9) hx hb hts zn_X11_letter_X9 hown hK hP 1 rfl rfl 1 (by decide) (hts (.fieldLink RX11 160 "ShortEnough$Task" "formatName" "[I") zw_X11_letter_361) (fun _ h9 => h9) rfl dX11_letter_50 ?_
    refine lv_iload_n hx hb dX11_letter_53 rfl (lv_at hl 2 rfl) ?_
    refine va_iald hx hb hK hP 4 1 rfl rfl (vp_in_iff.mpr ⟨by omega, by omega⟩) dX11_letter_54 ?_
    refine lv_topi (fun x_20 ex_20 => ?_)
    refine lv_goto (tgt := 70) hx hb dX11_letter_55 (by decide) ?_
    refine lv_istore (lv' := [(5, .int x_20), (4, .int r_13), (0, .ref h0), (1, .int p1), (2, .int p2), (3, .int p3)]) hx hb dX11_letter_70 hl (by decide) rfl (fun ls hl => ?_)
    refine lv_iload hx hb dX11_letter_72 (lv_at hl 0 rfl) ?_
    refine lv_iload_n hx hb dX11_letter_74 rfl (lv_at hl 5 rfl) ?_
    have hPc := hP.sub (ws' := []) [] rfl
    have hDc := hD.sub (ws' := []) [] (by decide) rfl
    have hKc := hK.sub (tys' := []) [] rfl
    have hFc := va_free (wc := []) hD hS hA [] rfl
    refine va_calli (va_runS (As := [.int x_20, .int p3]) (rest := []) ⟨hx, hb, hml, hown, hts⟩ (zs_X11_letterOf l dC dI x_20 p3  H.size) (va_cwS 2 hts gX11_letter_X11_letterOf rfl rfl rfl (by decide +kernel) ⟨Nat.le_of_ble_eq_true rfl, Nat.le_of_ble_eq_true rfl⟩) ⟨fun a U g mk q => by obtain ⟨q0, q1, qP, qK, qD⟩ := q; exact ⟨q0, q1, qP, va_K.moved (u := U) (U := U.calling g mk a) (Vm.Alike.refl U.vm) qK, qD⟩, fun U hU hW => ⟨rfl, by rw [hU], by rw [hU]; exact hPc, va_K.moved hW.alike hKc, hDc.weaken (fun _ _ _ _ => trivial)⟩⟩ rfl rfl hl.1 rfl (lv_room (Nat.le_of_ble_eq_true rfl)) dX11_letter_75 ⟨Nat.le_of_ble_eq_true rfl, Nat.le_of_ble_eq_true rfl⟩) hS (fun q _ h => hFc q h) hFc (fun r_21 u_22 t H1 locs ht hvm hw_23 hB hz1 hk1 hS => ?_)
    obtain ⟨hP1, hK1, hD1⟩ := hB
    rw [ht] at hP1
    have hK1 := va_K.moved hvm.symm hK1
    obtain ⟨hP, hD⟩ := va_join (wr := [(h0, .inr (11, [.ref r0_0, .int v0_1, .ref r0_2, .ref r0_3, .ref r0_4, .ref r0_5, .ref r0_6, .ref r0_7, .ref r0_8, .ref r0_9, .ref r0_10, .ref r0_11, .ref r0_12, .ref r0_13, .ref r0_14, .int v0_15])), (r0_4, .inr (9, [.int v1_0, .ref r1_1, .ref r1_2, .ref r1_3, .ref r1_4, .int v1_5, .ref r1_6, .ref r1_7, .ref r1_8])), (r1_6, .inr (4, [.int v2_0, .int v2_1, .ref r2_2, .ref r2_3, .ref r2_4, .ref r2_5, .ref r2_6, .ref r2_7, .ref r2_8, .ref r2_9])), (r2_2, .inl (k3, 14, .inl f3)), (r1_1, .inl (k4, 4, .inl f4))]) (w1 := []) hP hD [] [0, 1, 2, 3, 4] rfl rfl (by decide) (by decide) hk1 hFc hP1 hD1
    have hK := hK
    generalize H1 = H at hP hS ⊢
    have hP := hP.sub (ws' := [(h0, .inr (11, [.ref r0_0, .int v0_1, .ref r0_2, .ref r0_3, .ref r0_4, .ref r0_5, .ref r0_6, .ref r0_7, .ref r0_8, .ref r0_9, .ref r0_10, .ref r0_11, .ref r0_12, .ref r0_13, .ref r0_14, .int v0_15])), (r0_4, .inr (9, [.int v1_0, .ref r1_1, .ref r1_2, .ref r1_3, .ref r1_4, .int v1_5, .ref r1_6, .ref r1_7, .ref r1_8])), (r1_6, .inr (4, [.int v2_0, .int v2_1, .ref r2_2, .ref r2_3, .ref r2_4, .ref r2_5, .ref r2_6, .ref r2_7, .ref r2_8, .ref r2_9])), (r2_2, .inl (k3, 14, .inl f3)), (r1_1, .inl (k4, 4, .inl f4))]) [0, 1, 2, 3, 4] rfl
    have hD := hD.sub (ws' := [(h0, .inr (11, [.ref r0_0, .int v0_1, .ref r0_2, .ref r0_3, .ref r0_4, .ref r0_5, .ref r0_6, .ref r0_7, .ref r0_8, .ref r0_9, .ref r0_10, .ref r0_11, .ref r0_12, .ref r0_13, .ref r0_14, .int v0_15])), (r0_4, .inr (9, [.int v1_0, .ref r1_1, .ref r1_2, .ref r1_3, .ref r1_4, .int v1_5, .ref r1_6, .ref r1_7, .ref r1_8])), (r1_6, .inr (4, [.int v2_0, .int v2_1, .ref r2_2, .ref r2_3, .ref r2_4, .ref r2_5, .ref r2_6, .ref r2_7, .ref r2_8, .ref r2_9])), (r2_2, .inl (k3, 14, .inl f3)), (r1_1, .inl (k4, 4, .inl f4))]) [0, 1, 2, 3, 4] (by decide) rfl
    have hP : va_P (dC, dI) vwCl [(h0, .inr (11, [.ref r0_0, .int v0_1, .ref r0_2, .ref r0_3, .ref r0_4, .ref r0_5, .ref r0_6, .ref r0_7, .ref r0_8, .ref r0_9, .ref r0_10, .ref r0_11, .ref r0_12, .ref r0_13, .ref r0_14, .int v0_15])), (r0_4, .inr (9, [.int v1_0, .ref r1_1, .ref r1_2, .ref r1_3, .ref r1_4, .int v1_5, .ref r1_6, .ref r1_7, .ref r1_8])), (r1_6, .inr (4, [.int v2_0, .int v2_1, .ref r2_2, .ref r2_3, .ref r2_4, .ref r2_5, .ref r2_6, .ref r2_7, .ref r2_8, .ref r2_9])), (r2_2, .inl (k3, 14, .inl f3)), (r1_1, .inl (k4, 4, .inl f4))] H := hP
    have hD : va_D A [(h0, .inr (11, [.ref r0_0, .int v0_1, .ref r0_2, .ref r0_3, .ref r0_4, .ref r0_5, .ref r0_6, .ref r0_7, .ref r0_8, .ref r0_9, .ref r0_10, .ref r0_11, .ref r0_12, .ref r0_13, .ref r0_14, .int v0_15])), (r0_4, .inr (9, [.int v1_0, .ref r1_1, .ref r1_2, .ref r1_3, .ref r1_4, .int v1_5, .ref r1_6, .ref r1_7, .ref r1_8])), (r1_6, .inr (4, [.int v2_0, .int v2_1, .ref r2_2, .ref r2_3, .ref r2_4, .ref r2_5, .ref r2_6, .ref r2_7, .ref r2_8, .ref r2_9])), (r2_2, .inl (k3, 14, .inl f3)), (r1_1, .inl (k4, 4, .inl f4))] := hD
    obtain ⟨hr_21, -⟩ := hw_23
    have hP9 := hP.sub (ws' := [(h0, .inr (11, [.ref r0_0, .int v0_1, .ref r0_2, .ref r0_3, .ref r0_4, .ref r0_5, .ref r0_6, .ref r0_7, .ref r0_8, .ref r0_9, .ref r0_10, .ref r0_11, .ref r0_12, .ref r0_13, .ref r0_14, .int v0_15])), (r0_4, .inr (9, [.int v1_0, .ref r1_1, .ref r1_2, .ref r1_3, .ref r1_4, .int v1_5, .ref r1_6, .ref r1_7, .ref r1_8])), (r1_6, .inr (4, [.int v2_0, .int v2_1, .ref r2_2, .ref r2_3, .ref r2_4, .ref r2_5, .ref r2_6, .ref r2_7, .ref r2_8, .ref r2_9])), (r2_2, .inl (k3, 14, .inl f3)), (r1_1, .inl (k4, 4, .inl f4))]) [0, 1, 2, 3, 4] rfl
    have hD9 := hD.sub (ws' := [(h0, .inr (11, [.ref r0_0, .int v0_1, .ref r0_2, .ref r0_3, .ref r0_4, .ref r0_5, .ref r0_6, .ref r0_7, .ref r0_8, .ref r0_9, .ref r0_10, .ref r0_11, .ref r0_12, .ref r0_13, .ref r0_14, .int v0_15])), (r0_4, .inr (9, [.int v1_0, .ref r1_1, .ref r1_2, .ref r1_3, .ref r1_4, .int v1_5, .ref r1_6, .ref r1_7, .ref r1_8])), (r1_6, .inr (4, [.int v2_0, .int v2_1, .ref r2_2, .ref r2_3, .ref r2_4, .ref r2_5, .ref r2_6, .ref r2_7, .ref r2_8, .ref r2_9])), (r2_2, .inl (k3, 14, .inl f3)), (r1_1, .inl (k4, 4, .inl f4))]) [0, 1, 2, 3, 4] (by decide) rfl
    have hK9 := hK.sub (tys' := [(k3, .int), (k4, .int)]) [0, 1] rfl
    rw [← hQ]
    exact W.iret (v := r_21) hx hb hr (fun t ht hW => ⟨⟨r_21, ((fun k => ([] : List Int32).getD k 0), (fun k => ([] : List (Nat → Int32)).getD k (fun _ => 0)), (fun k => ([] : List (Nat → Int64)).getD k (fun _ => 0))), rfl, ⟨(show (-1 : Int) ≤ (r_21 : Int32).toInt ∧ (r_21 : Int32).toInt ≤ 31 by omega), (show ((r_21 : Int32).toInt = -1 ∨ ((0 : Int) ≤ p1.toInt + (0) ∧ (0 : Int) ≤ p3.toInt + (0) ∧ (p1.toInt : Int) ≤ 0 + (13) ∧ (p1.toInt : Int) ≤ v2_0.toInt + (3) ∧ (p2.toInt : Int) ≤ v1_0.toInt + (0) ∧ (p3.toInt : Int) ≤ 0 + (5))) by omega), trivial⟩, by rw [ht]; exact hP9, va_K.moved hW.alike hK9, hD9⟩, hS.F ht⟩) hS.2.2 dX11_letter_78
  have oc_18 := zk_nlt rfl (by decide +kernel : (6 : Int32).toInt = 6) c_18
  refine lv_iconst (v := (-1)) hx hb dX11_letter_40 (by decide +kernel) ?_
  have hP9 := hP.sub (ws' := [(h0, .inr (11, [.ref r0_0, .int v0_1, .ref r0_2, .ref r0_3, .ref r0_4, .ref r0_5, .ref r0_6, .ref r0_7, .ref r0_8, .ref r0_9, .ref r0_10, .ref r0_11, .ref r0_12, .ref r0_13, .ref r0_14, .int v0_15])), (r0_4, .inr (9, [.int v1_0, .ref r1_1, .ref r1_2, .ref r1_3, .ref r1_4, .int v1_5, .ref r1_6, .ref r1_7, .ref r1_8])), (r1_6, .inr (4, [.int v2_0, .int v2_1, .ref r2_2, .ref r2_3, .ref r2_4, .ref r2_5, .ref r2_6, .ref r2_7, .ref r2_8, .ref r2_9])), (r2_2, .inl (k3, 14, .inl f3)), (r1_1, .inl (k4, 4, .inl f4))]) [0, 1, 2, 3, 4] rfl
  have hD9 := hD.sub (ws' := [(h0, .inr (11, [.ref r0_0, .int v0_1, .ref r0_2, .ref r0_3, .ref r0_4, .ref r0_5, .ref r0_6, .ref r0_7, .ref r0_8, .ref r0_9, .ref r0_10, .ref r0_11, .ref r0_12, .ref r0_13, .ref r0_14, .int v0_15])), (r0_4, .inr (9, [.int v1_0, .ref r1_1, .ref r1_2, .ref r1_3, .ref r1_4, .int v1_5, .ref r1_6, .ref r1_7, .ref r1_8])), (r1_6, .inr (4, [.int v2_0, .int v2_1, .ref r2_2, .ref r2_3, .ref r2_4, .ref r2_5, .ref r2_6, .ref r2_7, .ref r2_8, .ref r2_9])), (r2_2, .inl (k3, 14, .inl f3)), (r1_1, .inl (k4, 4, .inl f4))]) [0, 1, 2, 3, 4] (by decide) rfl
  have hK9 := hK.sub (tys' := [(k3, .int), (k4, .int)]) [0, 1] rfl
  rw [← hQ]
  exact W.iret (v := (-1)) hx hb hr (fun t ht hW => ⟨⟨(-1), ((fun k => ([] : List Int32).getD k 0), (fun k => ([] : List (Nat → Int32)).getD k (fun _ => 0)), (fun k => ([] : List (Nat → Int64)).getD k (fun _ => 0))), rfl, ⟨(show (-1 : Int) ≤ ((-1) : Int32).toInt ∧ ((-1) : Int32).toInt ≤ 31 by decide +kernel), (show (((-1) : Int32).toInt = -1 ∨ ((0 : Int) ≤ p1.toInt + (0) ∧ (0 : Int) ≤ p3.toInt + (0) ∧ (p1.toInt : Int) ≤ 0 + (13) ∧ (p1.toInt : Int) ≤ v2_0.toInt + (3) ∧ (p2.toInt : Int) ≤ v1_0.toInt + (0) ∧ (p3.toInt : Int) ≤ 0 + (5))) by exact Or.inl (by decide +kernel)), trivial⟩, by rw [ht]; exact hP9, va_K.moved hW.alike hK9, hD9⟩, hS.F ht⟩) hS.2.2 dX11_letter_41
set_option maxHeartbeats 4000000 in
set_option maxRecDepth 100000 in
theorem zs_X11_format (l : Launch) (dC : Nat → ClassId) (dI : Nat → Nat → Nat) (h0 : Nat) (p1 : Int32) (p2 : Int32) (r0_0 : Nat) (v0_1 : Int32) (r0_2 : Nat) (r0_3 : Nat) (r0_4 : Nat) (r0_5 : Nat) (r0_6 : Nat) (r0_7 : Nat) (r0_8 : Nat) (r0_9 : Nat) (r0_10 : Nat) (r0_11 : Nat) (r0_12 : Nat) (r0_13 : Nat) (r0_14 : Nat) (v0_15 : Int32) (v1_0 : Int32) (r1_1 : Nat) (r1_2 : Nat) (r1_3 : Nat) (r1_4 : Nat) (v1_5 : Int32) (r1_6 : Nat) (r1_7 : Nat) (r1_8 : Nat) (k2 : Nat) (f2 : Nat → Int32) (k3 : Nat) (f3 : Nat → Int32) (k4 : Nat) (f4 : Nat → Int32) (hq_v0_1 : (0 : Int) ≤ v0_1.toInt ∧ v0_1.toInt ≤ 1200) (hq_v1_0 : (0 : Int) ≤ v1_0.toInt ∧ v1_0.toInt ≤ 4) (sz : Nat) : Met l yX11_format wsX11_format ({ frames := 1, cells := 0, slots := 0, locals := 21 }) (va_Pc [.ref h0, .int p1, .int p2] (fun U => U.heap.size = sz ∧ va_P (dC, dI) vwCl [(h0, .inr (11, [.ref r0_0, .int v0_1, .ref r0_2, .ref r0_3, .ref r0_4, .ref r0_5, .ref r0_6, .ref r0_7, .ref r0_8, .ref r0_9, .ref r0_10, .ref r0_11, .ref r0_12, .ref r0_13, .ref r0_14, .int v0_15])), (r0_4, .inr (9, [.int v1_0, .ref r1_1, .ref r1_2, .ref r1_3, .ref r1_4, .int v1_5, .ref r1_6, .ref r1_7, .ref r1_8])), (r1_2, .inl (k2, 4, .inl f2)), (r1_3, .inl (k3, 4, .inl f3)), (r1_4, .inl (k4, 4, .inl f4))] U.heap ∧ va_K (dC, dI) vwCl [(k2, .int), (k3, .int), (k4, .int)] U ∧ va_D (fun _ => True) [(h0, .inr (11, [.ref r0_0, .int v0_1, .ref r0_2, .ref r0_3, .ref r0_4, .ref r0_5, .ref r0_6, .ref r0_7, .ref r0_8, .ref r0_9, .ref r0_10, .ref r0_11, .ref r0_12, .ref r0_13, .ref r0_14, .int v0_15])), (r0_4, .inr (9, [.int v1_0, .ref r1_1, .ref r1_2, .ref r1_3, .ref r1_4, .int v1_5, .ref r1_6, .ref r1_7, .ref r1_8])), (r1_2, .inl (k2, 4, .inl f2)), (r1_3, .inl (k3, 4, .inl f3)), (r1_4, .inl (k4, 4, .inl f4))])) (va_Qi (fun (r : Int32) (u : zV) => (r.toInt = -1 ∨ ((0 : Int) ≤ p1.toInt + (0) ∧ (0 : Int) ≤ p2.toInt + (0) ∧ (p1.toInt : Int) ≤ v1_0.toInt + (-1) ∧ (p2.toInt : Int) ≤ 0 + (2))) ∧ True) (fun u t => va_P (dC, dI) vwCl [(h0, .inr (11, [.ref r0_0, .int v0_1, .ref r0_2, .ref r0_3, .ref r0_4, .ref r0_5, .ref r0_6, .ref r0_7, .ref r0_8, .ref r0_9, .ref r0_10, .ref r0_11, .ref r0_12, .ref r0_13, .ref r0_14, .int v0_15])), (r0_4, .inr (9, [.int v1_0, .ref r1_1, .ref r1_2, .ref r1_3, .ref r1_4, .int v1_5, .ref r1_6, .ref r1_7, .ref r1_8])), (r1_2, .inl (k2, 4, .inl f2)), (r1_3, .inl (k3, 4, .inl f3)), (r1_4, .inl (k4, 4, .inl f4))] t.heap ∧ va_K (dC, dI) vwCl [(k2, .int), (k3, .int), (k4, .int)] t ∧ va_D (va_A [(h0, .inr (11, [.ref r0_0, .int v0_1, .ref r0_2, .ref r0_3, .ref r0_4, .ref r0_5, .ref r0_6, .ref r0_7, .ref r0_8, .ref r0_9, .ref r0_10, .ref r0_11, .ref r0_12, .ref r0_13, .ref r0_14, .int v0_15])), (r0_4, .inr (9, [.int v1_0, .ref r1_1, .ref r1_2, .ref r1_3, .ref r1_4, .int v1_5, .ref r1_6, .ref r1_7, .ref r1_8])), (r1_2, .inl (k2, 4, .inl f2)), (r1_3, .inl (k3, 4, .inl f3)), (r1_4, .inl (k4, 4, .inl f4))] sz) [(h0, .inr (11, [.ref r0_0, .int v0_1, .ref r0_2, .ref r0_3, .ref r0_4, .ref r0_5, .ref r0_6, .ref r0_7, .ref r0_8, .ref r0_9, .ref r0_10, .ref r0_11, .ref r0_12, .ref r0_13, .ref r0_14, .int v0_15])), (r0_4, .inr (9, [.int v1_0, .ref r1_1, .ref r1_2, .ref r1_3, .ref r1_4, .int v1_5, .ref r1_6, .ref r1_7, .ref r1_8])), (r1_2, .inl (k2, 4, .inl f2)), (r1_3, .inl (k3, 4, .inl f3)), (r1_4, .inl (k4, 4, .inl f4))]) (va_A [(h0, .inr (11, [.ref r0_0, .int v0_1, .ref r0_2, .ref r0_3, .ref r0_4, .ref r0_5, .ref r0_6, .ref r0_7, .ref r0_8, .ref r0_9, .ref r0_10, .ref r0_11, .ref r0_12, .ref r0_13, .ref r0_14, .int v0_15])), (r0_4, .inr (9, [.int v1_0, .ref r1_1, .ref r1_2, .ref r1_3, .ref r1_4, .int v1_5, .ref r1_6, .ref r1_7, .ref r1_8])), (r1_2, .inl (k2, 4, .inl f2)), (r1_3, .inl (k3, 4, .inl f3)), (r1_4, .inl (k4, 4, .inl f4))] sz)) 0 0 (va_A [(h0, .inr (11, [.ref r0_0, .int v0_1, .ref r0_2, .ref r0_3, .ref r0_4, .ref r0_5, .ref r0_6, .ref r0_7, .ref r0_8, .ref r0_9, .ref r0_10, .ref r0_11, .ref r0_12, .ref r0_13, .ref r0_14, .int v0_15])), (r0_4, .inr (9, [.int v1_0, .ref r1_1, .ref r1_2, .ref r1_3, .ref r1_4, .int v1_5, .ref r1_6, .ref r1_7, .ref r1_8])), (r1_2, .inl (k2, 4, .inl f2)), (r1_3, .inl (k3, 4, .inl f3)), (r1_4, .inl (k4, 4, .inl f4))] sz) := by
  refine Met.ofW (cc := cX11_format) (maxL := 3) (ret := (some .int)) (by decide +kernel) rfl ?_
  intro p e s m args below meth c s₁ B hml hv
  obtain ⟨rfl, hsz, hP, hK, hD0⟩ := hv
  have hx := B.exec
  have hb := B.bytes
  have hr := B.returns
  have hts := atoms_spec (ws := wsX11_format) B.pre
  have hown : s.vm.findClass RX11 = some m.cls := findClass_of_methodNamed B.named
  have hlocks := B.notSynchronized
  subst hsz
  have hD := hD0.self (sz := s.heap.size)
  generalize hAe : va_A [(h0, .inr (11, [.ref r0_0, .int v0_1, .ref r0_2, .ref r0_3, .ref r0_4, .ref r0_5, .ref r0_6, .ref r0_7, .ref r0_8, .ref r0_9, .ref r0_10, .ref r0_11, .ref r0_12, .ref r0_13, .ref r0_14, .int v0_15])), (r0_4, .inr (9, [.int v1_0, .ref r1_1, .ref r1_2, .ref r1_3, .ref r1_4, .int v1_5, .ref r1_6, .ref r1_7, .ref r1_8])), (r1_2, .inl (k2, 4, .inl f2)), (r1_3, .inl (k3, 4, .inl f3)), (r1_4, .inl (k4, 4, .inl f4))] s.heap.size = A at hD ⊢
  have hA : ∀ q : Nat, s.heap.size ≤ q → A q := fun q h => by rw [← hAe]; exact Or.inr h
  have hS : va_S A s.heap s.heap [] := va_S.rf
  have hP : va_P (dC, dI) vwCl [(h0, .inr (11, [.ref r0_0, .int v0_1, .ref r0_2, .ref r0_3, .ref r0_4, .ref r0_5, .ref r0_6, .ref r0_7, .ref r0_8, .ref r0_9, .ref r0_10, .ref r0_11, .ref r0_12, .ref r0_13, .ref r0_14, .int v0_15])), (r0_4, .inr (9, [.int v1_0, .ref r1_1, .ref r1_2, .ref r1_3, .ref r1_4, .int v1_5, .ref r1_6, .ref r1_7, .ref r1_8])), (r1_2, .inl (k2, 4, .inl f2)), (r1_3, .inl (k3, 4, .inl f3)), (r1_4, .inl (k4, 4, .inl f4))] s.heap := hP
  have hl := lv_entry ([.ref h0, .int p1, .int p2]) (n := 3) (Nat.le_of_ble_eq_true rfl)
  rw [lg_entry_eq]
  generalize (lg_sl ([.ref h0, .int p1, .int p2]) ++ List.replicate (3 - (lg_sl ([.ref h0, .int p1, .int p2])).length) Slot.unset).toArray = ls at hl ⊢
  have hl : lv_has ls 3 [(0, .ref h0), (1, .int p1), (2, .int p2)] := hl
  generalize hQ : MQ below (va_Qi (fun (r : Int32) (u : zV) => (r.toInt = -1 ∨ ((0 : Int) ≤ p1.toInt + (0) ∧ (0 : Int) ≤ p2.toInt + (0) ∧ (p1.toInt : Int) ≤ v1_0.toInt + (-1) ∧ (p2.toInt : Int) ≤ 0 + (2))) ∧ True) (fun u t => va_P (dC, dI) vwCl [(h0, .inr (11, [.ref r0_0, .int v0_1, .ref r0_2, .ref r0_3, .ref r0_4, .ref r0_5, .ref r0_6, .ref r0_7, .ref r0_8, .ref r0_9, .ref r0_10, .ref r0_11, .ref r0_12, .ref r0_13, .ref r0_14, .int v0_15])), (r0_4, .inr (9, [.int v1_0, .ref r1_1, .ref r1_2, .ref r1_3, .ref r1_4, .int v1_5, .ref r1_6, .ref r1_7, .ref r1_8])), (r1_2, .inl (k2, 4, .inl f2)), (r1_3, .inl (k3, 4, .inl f3)), (r1_4, .inl (k4, 4, .inl f4))] t.heap ∧ va_K (dC, dI) vwCl [(k2, .int), (k3, .int), (k4, .int)] t ∧ va_D A [(h0, .inr (11, [.ref r0_0, .int v0_1, .ref r0_2, .ref r0_3, .ref r0_4, .ref r0_5, .ref r0_6, .ref r0_7, .ref r0_8, .ref r0_9, .ref r0_10, .ref r0_11, .ref r0_12, .ref r0_13, .ref r0_14, .int v0_15])), (r0_4, .inr (9, [.int v1_0, .ref r1_1, .ref r1_2, .ref r1_3, .ref r1_4, .int v1_5, .ref r1_6, .ref r1_7, .ref r1_8])), (r1_2, .inl (k2, 4, .inl f2)), (r1_3, .inl (k3, 4, .inl f3)), (r1_4, .inl (k4, 4, .inl f4))]) A) ([.ref h0, .int p1, .int p2] : List Value).toArray s 0 0 A = Q
  refine lv_aload_n hx hb dX11_format_0 rfl (lv_at hl 0 rfl) ?_
  refine va_get (D := (dC, dI)) (ci := 11) (v := .ref r0_4) (C := RX11) (T := TX11) (N := 16) hx hb hts zn_X11_format_X11 hown hK hP 0 rfl rfl 4 (by decide) (hts (.fieldLink RX11 27 "ShortEnough" "current" "LShortEnough$Task;") zw_X11_format_363) (fun _ h9 => h9) rfl dX11_format_1 ?_
  refine lv_iload_n hx hb dX11_format_4 rfl (lv_at hl 1 rfl) ?_
  have hPc := hP.sub (ws' := [(r0_4, .inr (9, [.int v1_0, .ref r1_1, .ref r1_2, .ref r1_3, .ref r1_4, .int v1_5, .ref r1_6, .ref r1_7, .ref r1_8]))]) [1] rfl
  have hDc := hD.sub (ws' := [(r0_4, .inr (9, [.int v1_0, .ref r1_1, .ref r1_2, .ref r1_3, .ref r1_4, .int v1_5, .ref r1_6, .ref r1_7, .ref r1_8]))]) [1] (by decide) rfl
  have hKc := hK.sub (tys' := []) [] rfl
  have hFc := va_free (wc := [(r0_4, .inr (9, [.int v1_0, .ref r1_1, .ref r1_2, .ref r1_3, .ref r1_4, .int v1_5, .ref r1_6, .ref r1_7, .ref r1_8]))]) hD hS hA [1] rfl
  refine va_calli (va_runV (As := [.int p1]) (rest := []) ⟨hx, hb, hml, hown, hts⟩ (zs_X9_hasFormat l dC dI r0_4 p1 v1_0 r1_1 r1_2 r1_3 r1_4 v1_5 r1_6 r1_7 r1_8 (by omega) s.heap.size) (cwV 1 hts gX11_format_X9_hasFormat rfl rfl rfl (by decide +kernel) ⟨Nat.le_of_ble_eq_true rfl, Nat.le_of_ble_eq_true rfl⟩) ⟨fun a U g mk q => by obtain ⟨q0, q1, qP, qK, qD⟩ := q; exact ⟨q0, q1, qP, va_K.moved (u := U) (U := U.calling g mk a) (Vm.Alike.refl U.vm) qK, qD⟩, va_recv hKc hPc (ci := 9) (q0 := 0) rfl rfl, fun U hU hW => ⟨rfl, by rw [hU], by rw [hU]; exact hPc, va_K.moved hW.alike hKc, hDc.weaken (fun _ _ _ _ => trivial)⟩⟩ rfl rfl hl.1 rfl (lv_room (Nat.le_of_ble_eq_true rfl)) dX11_format_5 ⟨Nat.le_of_ble_eq_true rfl, Nat.le_of_ble_eq_true rfl⟩) hS (fun q _ h => hFc q h) hFc (fun r_1 u_2 t H1 locs ht hvm hw_3 hB hz1 hk1 hS => ?_)
  obtain ⟨hP1, hK1, hD1⟩ := hB
  rw [ht] at hP1
  have hK1 := va_K.moved hvm.symm hK1
  obtain ⟨hP, hD⟩ := va_join (wr := [(h0, .inr (11, [.ref r0_0, .int v0_1, .ref r0_2, .ref r0_3, .ref r0_4, .ref r0_5, .ref r0_6, .ref r0_7, .ref r0_8, .ref r0_9, .ref r0_10, .ref r0_11, .ref r0_12, .ref r0_13, .ref r0_14, .int v0_15])), (r1_2, .inl (k2, 4, .inl f2)), (r1_3, .inl (k3, 4, .inl f3)), (r1_4, .inl (k4, 4, .inl f4))]) (w1 := [(r0_4, .inr (9, [.int v1_0, .ref r1_1, .ref r1_2, .ref r1_3, .ref r1_4, .int v1_5, .ref r1_6, .ref r1_7, .ref r1_8]))]) hP hD [1] [0, 2, 3, 4] rfl rfl (by decide) (by decide) hk1 hFc hP1 hD1
  have hK := hK
  generalize H1 = H at hP hS ⊢
  have hP := hP.sub (ws' := [(h0, .inr (11, [.ref r0_0, .int v0_1, .ref r0_2, .ref r0_3, .ref r0_4, .ref r0_5, .ref r0_6, .ref r0_7, .ref r0_8, .ref r0_9, .ref r0_10, .ref r0_11, .ref r0_12, .ref r0_13, .ref r0_14, .int v0_15])), (r0_4, .inr (9, [.int v1_0, .ref r1_1, .ref r1_2, .ref r1_3, .ref r1_4, .int v1_5, .ref r1_6, .ref r1_7, .ref r1_8])), (r1_2, .inl (k2, 4, .inl f2)), (r1_3, .inl (k3, 4, .inl f3)), (r1_4, .inl (k4, 4, .inl f4))]) [0, 4, 1, 2, 3] rfl
  have hD := hD.sub (ws' := [(h0, .inr (11, [.ref r0_0, .int v0_1, .ref r0_2, .ref r0_3, .ref r0_4, .ref r0_5, .ref r0_6, .ref r0_7, .ref r0_8, .ref r0_9, .ref r0_10, .ref r0_11, .ref r0_12, .ref r0_13, .ref r0_14, .int v0_15])), (r0_4, .inr (9, [.int v1_0, .ref r1_1, .ref r1_2, .ref r1_3, .ref r1_4, .int v1_5, .ref r1_6, .ref r1_7, .ref r1_8])), (r1_2, .inl (k2, 4, .inl f2)), (r1_3, .inl (k3, 4, .inl f3)), (r1_4, .inl (k4, 4, .inl f4))]) [0, 4, 1, 2, 3] (by decide) rfl
  have hP : va_P (dC, dI) vwCl [(h0, .inr (11, [.ref r0_0, .int v0_1, .ref r0_2, .ref r0_3, .ref r0_4, .ref r0_5, .ref r0_6, .ref r0_7, .ref r0_8, .ref r0_9, .ref r0_10, .ref r0_11, .ref r0_12, .ref r0_13, .ref r0_14, .int v0_15])), (r0_4, .inr (9, [.int v1_0, .ref r1_1, .ref r1_2, .ref r1_3, .ref r1_4, .int v1_5, .ref r1_6, .ref r1_7, .ref r1_8])), (r1_2, .inl (k2, 4, .inl f2)), (r1_3, .inl (k3, 4, .inl f3)), (r1_4, .inl (k4, 4, .inl f4))] H := hP
  have hD : va_D A [(h0, .inr (11, [.ref r0_0, .int v0_1, .ref r0_2, .ref r0_3, .ref r0_4, .ref r0_5, .ref r0_6, .ref r0_7, .ref r0_8, .ref r0_9, .ref r0_10, .ref r0_11, .ref r0_12, .ref r0_13, .ref r0_14, .int v0_15])), (r0_4, .inr (9, [.int v1_0, .ref r1_1, .ref r1_2, .ref r1_3, .ref r1_4, .int v1_5, .ref r1_6, .ref r1_7, .ref r1_8])), (r1_2, .inl (k2, 4, .inl f2)), (r1_3, .inl (k3, 4, .inl f3)), (r1_4, .inl (k4, 4, .inl f4))] := hD
  obtain ⟨hr_1, hir_1, -⟩ := hw_3
  refine lv_if_ne (tgt := 13) hx hb dX11_format_8 (by decide) (fun c_4 => ?_) (fun c_4 => ?_)
  · have oc_4 := zk_ne rfl (by decide +kernel : (0 : Int32).toInt = 0) c_4
    refine lv_iload_n hx hb dX11_format_13 rfl (lv_at hl 2 rfl) ?_
    by_cases c_5 : p2 = 0
    · refine W.eq (g2 := F0 m 14 ls [.int 0]) (by rw [c_5]) ?_
      refine lv_tableIn (tgt := 40) (off := 26) hx hb dX11_format_14 (by decide +kernel) (by decide +kernel) (by decide +kernel) (by decide) ?_
      have oc_5 := zk_eq rfl (by decide +kernel : (0 : Int32).toInt = 0) c_5
      refine lv_aload_n hx hb dX11_format_40 rfl (lv_at hl 0 rfl) ?_
      refine va_get (D := (dC, dI)) (ci := 11) (v := .ref r0_4) (C := RX11) (T := TX11) (N := 16) hx hb hts zn_X11_format_X11 hown hK hP 0 rfl rfl 4 (by decide) (hts (.fieldLink RX11 27 "ShortEnough" "current" "LShortEnough$Task;") zw_X11_format_363) (fun _ h9 => h9) rfl dX11_format_41 ?_
      refine va_get (D := (dC, dI)) (ci := 9) (v := .ref r1_2) (C := RX9) (T := TX9) (N := 9) hx hb hts zn_X11_format_X9 hown hK hP 1 rfl rfl 2 (by decide) (hts (.fieldLink RX11 170 "ShortEnough$Task" "step" "[I") zw_X11_format_365) (fun _ h9 => h9) rfl dX11_format_44 ?_
      refine lv_iload_n hx hb dX11_format_47 rfl (lv_at hl 1 rfl) ?_
      refine va_iald hx hb hK hP 2 0 rfl rfl (vp_in_iff.mpr ⟨by omega, by omega⟩) dX11_format_48 ?_
      refine lv_topi (fun x_6 ex_6 => ?_)
      have hP9 := hP.sub (ws' := [(h0, .inr (11, [.ref r0_0, .int v0_1, .ref r0_2, .ref r0_3, .ref r0_4, .ref r0_5, .ref r0_6, .ref r0_7, .ref r0_8, .ref r0_9, .ref r0_10, .ref r0_11, .ref r0_12, .ref r0_13, .ref r0_14, .int v0_15])), (r0_4, .inr (9, [.int v1_0, .ref r1_1, .ref r1_2, .ref r1_3, .ref r1_4, .int v1_5, .ref r1_6, .ref r1_7, .ref r1_8])), (r1_2, .inl (k2, 4, .inl f2)), (r1_3, .inl (k3, 4, .inl f3)), (r1_4, .inl (k4, 4, .inl f4))]) [0, 1, 2, 3, 4] rfl
      have hD9 := hD.sub (ws' := [(h0, .inr (11, [.ref r0_0, .int v0_1, .ref r0_2, .ref r0_3, .ref r0_4, .ref r0_5, .ref r0_6, .ref r0_7, .ref r0_8, .ref r0_9, .ref r0_10, .ref r0_11, .ref r0_12, .ref r0_13, .ref r0_14, .int v0_15])), (r0_4, .inr (9, [.int v1_0, .ref r1_1, .ref r1_2, .ref r1_3, .ref r1_4, .int v1_5, .ref r1_6, .ref r1_7, .ref r1_8])), (r1_2, .inl (k2, 4, .inl f2)), (r1_3, .inl (k3, 4, .inl f3)), (r1_4, .inl (k4, 4, .inl f4))]) [0, 1, 2, 3, 4] (by decide) rfl
      have hK9 := hK.sub (tys' := [(k2, .int), (k3, .int), (k4, .int)]) [0, 1, 2] rfl
      rw [← hQ]
      exact W.iret (v := x_6) hx hb hr (fun t ht hW => ⟨⟨x_6, ((fun k => ([] : List Int32).getD k 0), (fun k => ([] : List (Nat → Int32)).getD k (fun _ => 0)), (fun k => ([] : List (Nat → Int64)).getD k (fun _ => 0))), rfl, ⟨(show ((x_6 : Int32).toInt = -1 ∨ ((0 : Int) ≤ p1.toInt + (0) ∧ (0 : Int) ≤ p2.toInt + (0) ∧ (p1.toInt : Int) ≤ v1_0.toInt + (-1) ∧ (p2.toInt : Int) ≤ 0 + (2))) by omega), trivial⟩, by rw [ht]; exact hP9, va_K.moved hW.alike hK9, hD9⟩, hS.F ht⟩) hS.2.2 dX11_format_49
    have oc_5 := zk_ne rfl (by decide +kernel : (0 : Int32).toInt = 0) c_5
    by_cases c_7 : p2 = 1
    · refine W.eq (g2 := F0 m 14 ls [.int 1]) (by rw [c_7]) ?_
      refine lv_tableIn (tgt := 50) (off := 36) hx hb dX11_format_14 (by decide +kernel) (by decide +kernel) (by decide +kernel) (by decide) ?_
      have oc_7 := zk_eq rfl (by decide +kernel : (1 : Int32).toInt = 1) c_7
      refine lv_aload_n hx hb dX11_format_50 rfl (lv_at hl 0 rfl) ?_
      refine va_get (D := (dC, dI)) (ci := 11) (v := .ref r0_4) (C := RX11) (T := TX11) (N := 16) hx hb hts zn_X11_format_X11 hown hK hP 0 rfl rfl 4 (by decide) (hts (.fieldLink RX11 27 "ShortEnough" "current" "LShortEnough$Task;") zw_X11_format_363) (fun _ h9 => h9) rfl dX11_format_51 ?_
      refine va_get (D := (dC, dI)) (ci := 9) (v := .ref r1_3) (C := RX9) (T := TX9) (N := 9) hx hb hts zn_X11_format_X9 hown hK hP 1 rfl rfl 3 (by decide) (hts (.fieldLink RX11 173 "ShortEnough$Task" "most" "[I") zw_X11_format_366) (fun _ h9 => h9) rfl dX11_format_54 ?_
      refine lv_iload_n hx hb dX11_format_57 rfl (lv_at hl 1 rfl) ?_
      refine va_iald hx hb hK hP 3 1 rfl rfl (vp_in_iff.mpr ⟨by omega, by omega⟩) dX11_format_58 ?_
      refine lv_topi (fun x_8 ex_8 => ?_)
      have hP9 := hP.sub (ws' := [(h0, .inr (11, [.ref r0_0, .int v0_1, .ref r0_2, .ref r0_3, .ref r0_4, .ref r0_5, .ref r0_6, .ref r0_7, .ref r0_8, .ref r0_9, .ref r0_10, .ref r0_11, .ref r0_12, .ref r0_13, .ref r0_14, .int v0_15])), (r0_4, .inr (9, [.int v1_0, .ref r1_1, .ref r1_2, .ref r1_3, .ref r1_4, .int v1_5, .ref r1_6, .ref r1_7, .ref r1_8])), (r1_2, .inl (k2, 4, .inl f2)), (r1_3, .inl (k3, 4, .inl f3)), (r1_4, .inl (k4, 4, .inl f4))]) [0, 1, 2, 3, 4] rfl
      have hD9 := hD.sub (ws' := [(h0, .inr (11, [.ref r0_0, .int v0_1, .ref r0_2, .ref r0_3, .ref r0_4, .ref r0_5, .ref r0_6, .ref r0_7, .ref r0_8, .ref r0_9, .ref r0_10, .ref r0_11, .ref r0_12, .ref r0_13, .ref r0_14, .int v0_15])), (r0_4, .inr (9, [.int v1_0, .ref r1_1, .ref r1_2, .ref r1_3, .ref r1_4, .int v1_5, .ref r1_6, .ref r1_7, .ref r1_8])), (r1_2, .inl (k2, 4, .inl f2)), (r1_3, .inl (k3, 4, .inl f3)), (r1_4, .inl (k4, 4, .inl f4))]) [0, 1, 2, 3, 4] (by decide) rfl
      have hK9 := hK.sub (tys' := [(k2, .int), (k3, .int), (k4, .int)]) [0, 1, 2] rfl
      rw [← hQ]
      exact W.iret (v := x_8) hx hb hr (fun t ht hW => ⟨⟨x_8, ((fun k => ([] : List Int32).getD k 0), (fun k => ([] : List (Nat → Int32)).getD k (fun _ => 0)), (fun k => ([] : List (Nat → Int64)).getD k (fun _ => 0))), rfl, ⟨(show ((x_8 : Int32).toInt = -1 ∨ ((0 : Int) ≤ p1.toInt + (0) ∧ (0 : Int) ≤ p2.toInt + (0) ∧ (p1.toInt : Int) ≤ v1_0.toInt + (-1) ∧ (p2.toInt : Int) ≤ 0 + (2))) by omega), trivial⟩, by rw [ht]; exact hP9, va_K.moved hW.alike hK9, hD9⟩, hS.F ht⟩) hS.2.2 dX11_format_59
    have oc_7 := zk_ne rfl (by decide +kernel : (1 : Int32).toInt = 1) c_7
    by_cases c_9 : p2 = 2
    · refine W.eq (g2 := F0 m 14 ls [.int 2]) (by rw [c_9]) ?_
      refine lv_tableIn (tgt := 60) (off := 46) hx hb dX11_format_14 (by decide +kernel) (by decide +kernel) (by decide +kernel) (by decide) ?_
      have oc_9 := zk_eq rfl (by decide +kernel : (2 : Int32).toInt = 2) c_9
      refine lv_aload_n hx hb dX11_format_60 rfl (lv_at hl 0 rfl) ?_
      refine va_get (D := (dC, dI)) (ci := 11) (v := .ref r0_4) (C := RX11) (T := TX11) (N := 16) hx hb hts zn_X11_format_X11 hown hK hP 0 rfl rfl 4 (by decide) (hts (.fieldLink RX11 27 "ShortEnough" "current" "LShortEnough$Task;") zw_X11_format_363) (fun _ h9 => h9) rfl dX11_format_61 ?_
      refine va_get (D := (dC, dI)) (ci := 9) (v := .ref r1_4) (C := RX9) (T := TX9) (N := 9) hx hb hts zn_X11_format_X9 hown hK hP 1 rfl rfl 4 (by decide) (hts (.fieldLink RX11 176 "ShortEnough$Task" "price" "[I") zw_X11_format_367) (fun _ h9 => h9) rfl dX11_format_64 ?_
      refine lv_iload_n hx hb dX11_format_67 rfl (lv_at hl 1 rfl) ?_
      refine va_iald hx hb hK hP 4 2 rfl rfl (vp_in_iff.mpr ⟨by omega, by omega⟩) dX11_format_68 ?_
      refine lv_topi (fun x_10 ex_10 => ?_)
      have hP9 := hP.sub (ws' := [(h0, .inr (11, [.ref r0_0, .int v0_1, .ref r0_2, .ref r0_3, .ref r0_4, .ref r0_5, .ref r0_6, .ref r0_7, .ref r0_8, .ref r0_9, .ref r0_10, .ref r0_11, .ref r0_12, .ref r0_13, .ref r0_14, .int v0_15])), (r0_4, .inr (9, [.int v1_0, .ref r1_1, .ref r1_2, .ref r1_3, .ref r1_4, .int v1_5, .ref r1_6, .ref r1_7, .ref r1_8])), (r1_2, .inl (k2, 4, .inl f2)), (r1_3, .inl (k3, 4, .inl f3)), (r1_4, .inl (k4, 4, .inl f4))]) [0, 1, 2, 3, 4] rfl
      have hD9 := hD.sub (ws' := [(h0, .inr (11, [.ref r0_0, .int v0_1, .ref r0_2, .ref r0_3, .ref r0_4, .ref r0_5, .ref r0_6, .ref r0_7, .ref r0_8, .ref r0_9, .ref r0_10, .ref r0_11, .ref r0_12, .ref r0_13, .ref r0_14, .int v0_15])), (r0_4, .inr (9, [.int v1_0, .ref r1_1, .ref r1_2, .ref r1_3, .ref r1_4, .int v1_5, .ref r1_6, .ref r1_7, .ref r1_8])), (r1_2, .inl (k2, 4, .inl f2)), (r1_3, .inl (k3, 4, .inl f3)), (r1_4, .inl (k4, 4, .inl f4))]) [0, 1, 2, 3, 4] (by decide) rfl
      have hK9 := hK.sub (tys' := [(k2, .int), (k3, .int), (k4, .int)]) [0, 1, 2] rfl
      rw [← hQ]
      exact W.iret (v := x_10) hx hb hr (fun t ht hW => ⟨⟨x_10, ((fun k => ([] : List Int32).getD k 0), (fun k => ([] : List (Nat → Int32)).getD k (fun _ => 0)), (fun k => ([] : List (Nat → Int64)).getD k (fun _ => 0))), rfl, ⟨(show ((x_10 : Int32).toInt = -1 ∨ ((0 : Int) ≤ p1.toInt + (0) ∧ (0 : Int) ≤ p2.toInt + (0) ∧ (p1.toInt : Int) ≤ v1_0.toInt + (-1) ∧ (p2.toInt : Int) ≤ 0 + (2))) by omega), trivial⟩, by rw [ht]; exact hP9, va_K.moved hW.alike hK9, hD9⟩, hS.F ht⟩) hS.2.2 dX11_format_69
    have oc_9 := zk_ne rfl (by decide +kernel : (2 : Int32).toInt = 2) c_9
    refine lv_tableOut (tgt := 70) hx hb dX11_format_14 (by omega) (by decide) ?_
    refine lv_iconst (v := (-1)) hx hb dX11_format_70 (by decide +kernel) ?_
    have hP9 := hP.sub (ws' := [(h0, .inr (11, [.ref r0_0, .int v0_1, .ref r0_2, .ref r0_3, .ref r0_4, .ref r0_5, .ref r0_6, .ref r0_7, .ref r0_8, .ref r0_9, .ref r0_10, .ref r0_11, .ref r0_12, .ref r0_13, .ref r0_14, .int v0_15])), (r0_4, .inr (9, [.int v1_0, .ref r1_1, .ref r1_2, .ref r1_3, .ref r1_4, .int v1_5, .ref r1_6, .ref r1_7, .ref r1_8])), (r1_2, .inl (k2, 4, .inl f2)), (r1_3, .inl (k3, 4, .inl f3)), (r1_4, .inl (k4, 4, .inl f4))]) [0, 1, 2, 3, 4] rfl
    have hD9 := hD.sub (ws' := [(h0, .inr (11, [.ref r0_0, .int v0_1, .ref r0_2, .ref r0_3, .ref r0_4, .ref r0_5, .ref r0_6, .ref r0_7, .ref r0_8, .ref r0_9, .ref r0_10, .ref r0_11, .ref r0_12, .ref r0_13, .ref r0_14, .int v0_15])), (r0_4, .inr (9, [.int v1_0, .ref r1_1, .ref r1_2, .ref r1_3, .ref r1_4, .int v1_5, .ref r1_6, .ref r1_7, .ref r1_8])), (r1_2, .inl (k2, 4, .inl f2)), (r1_3, .inl (k3, 4, .inl f3)), (r1_4, .inl (k4, 4, .inl f4))]) [0, 1, 2, 3, 4] (by decide) rfl
    have hK9 := hK.sub (tys' := [(k2, .int), (k3, .int), (k4, .int)]) [0, 1, 2] rfl
    rw [← hQ]
    exact W.iret (v := (-1)) hx hb hr (fun t ht hW => ⟨⟨(-1), ((fun k => ([] : List Int32).getD k 0), (fun k => ([] : List (Nat → Int32)).getD k (fun _ => 0)), (fun k => ([] : List (Nat → Int64)).getD k (fun _ => 0))), rfl, ⟨(show (((-1) : Int32).toInt = -1 ∨ ((0 : Int) ≤ p1.toInt + (0) ∧ (0 : Int) ≤ p2.toInt + (0) ∧ (p1.toInt : Int) ≤ v1_0.toInt + (-1) ∧ (p2.toInt : Int) ≤ 0 + (2))) by exact Or.inl (by decide +kernel)), trivial⟩, by rw [ht]; exact hP9, va_K.moved hW.alike hK9, hD9⟩, hS.F ht⟩) hS.2.2 dX11_format_71
  have oc_4 := zk_eq rfl (by decide +kernel : (0 : Int32).toInt = 0) c_4
  refine lv_iconst (v := (-1)) hx hb dX11_format_11 (by decide +kernel) ?_
  have hP9 := hP.sub (ws' := [(h0, .inr (11, [.ref r0_0, .int v0_1, .ref r0_2, .ref r0_3, .ref r0_4, .ref r0_5, .ref r0_6, .ref r0_7, .ref r0_8, .ref r0_9, .ref r0_10, .ref r0_11, .ref r0_12, .ref r0_13, .ref r0_14, .int v0_15])), (r0_4, .inr (9, [.int v1_0, .ref r1_1, .ref r1_2, .ref r1_3, .ref r1_4, .int v1_5, .ref r1_6, .ref r1_7, .ref r1_8])), (r1_2, .inl (k2, 4, .inl f2)), (r1_3, .inl (k3, 4, .inl f3)), (r1_4, .inl (k4, 4, .inl f4))]) [0, 1, 2, 3, 4] rfl
  have hD9 := hD.sub (ws' := [(h0, .inr (11, [.ref r0_0, .int v0_1, .ref r0_2, .ref r0_3, .ref r0_4, .ref r0_5, .ref r0_6, .ref r0_7, .ref r0_8, .ref r0_9, .ref r0_10, .ref r0_11, .ref r0_12, .ref r0_13, .ref r0_14, .int v0_15])), (r0_4, .inr (9, [.int v1_0, .ref r1_1, .ref r1_2, .ref r1_3, .ref r1_4, .int v1_5, .ref r1_6, .ref r1_7, .ref r1_8])), (r1_2, .inl (k2, 4, .inl f2)), (r1_3, .inl (k3, 4, .inl f3)), (r1_4, .inl (k4, 4, .inl f4))]) [0, 1, 2, 3, 4] (by decide) rfl
  have hK9 := hK.sub (tys' := [(k2, .int), (k3, .int), (k4, .int)]) [0, 1, 2] rfl
  rw [← hQ]
  exact W.iret (v := (-1)) hx hb hr (fun t ht hW => ⟨⟨(-1), ((fun k => ([] : List Int32).getD k 0), (fun k => ([] : List (Nat → Int32)).getD k (fun _ => 0)), (fun k => ([] : List (Nat → Int64)).getD k (fun _ => 0))), rfl, ⟨(show (((-1) : Int32).toInt = -1 ∨ ((0 : Int) ≤ p1.toInt + (0) ∧ (0 : Int) ≤ p2.toInt + (0) ∧ (p1.toInt : Int) ≤ v1_0.toInt + (-1) ∧ (p2.toInt : Int) ≤ 0 + (2))) by exact Or.inl (by decide +kernel)), trivial⟩, by rw [ht]; exact hP9, va_K.moved hW.alike hK9, hD9⟩, hS.F ht⟩) hS.2.2 dX11_format_12
set_option maxHeartbeats 4000000 in
set_option maxRecDepth 100000 in
theorem zs_X11_seed (l : Launch) (dC : Nat → ClassId) (dI : Nat → Nat → Nat) (h0 : Nat) (p1 : Int32) (r0_0 : Nat) (v0_1 : Int32) (r0_2 : Nat) (r0_3 : Nat) (r0_4 : Nat) (r0_5 : Nat) (r0_6 : Nat) (r0_7 : Nat) (r0_8 : Nat) (r0_9 : Nat) (r0_10 : Nat) (r0_11 : Nat) (r0_12 : Nat) (r0_13 : Nat) (r0_14 : Nat) (v0_15 : Int32) (k1 : Nat) (f1 : Nat → Int32) (hq_v0_1 : (0 : Int) ≤ v0_1.toInt ∧ v0_1.toInt ≤ 1200) (sz : Nat) : Met l yX11_seed wsX11_seed ({ frames := 1, cells := 0, slots := 0, locals := 21 }) (va_Pc [.ref h0, .int p1] (fun U => U.heap.size = sz ∧ va_P (dC, dI) vwCl [(h0, .inr (11, [.ref r0_0, .int v0_1, .ref r0_2, .ref r0_3, .ref r0_4, .ref r0_5, .ref r0_6, .ref r0_7, .ref r0_8, .ref r0_9, .ref r0_10, .ref r0_11, .ref r0_12, .ref r0_13, .ref r0_14, .int v0_15])), (r0_2, .inl (k1, 5, .inl f1))] U.heap ∧ va_K (dC, dI) vwCl [(k1, .int)] U ∧ va_D (fun _ => True) [(h0, .inr (11, [.ref r0_0, .int v0_1, .ref r0_2, .ref r0_3, .ref r0_4, .ref r0_5, .ref r0_6, .ref r0_7, .ref r0_8, .ref r0_9, .ref r0_10, .ref r0_11, .ref r0_12, .ref r0_13, .ref r0_14, .int v0_15])), (r0_2, .inl (k1, 5, .inl f1))])) (va_Qi (fun (r : Int32) (u : zV) => ((0 : Int) ≤ r.toInt ∧ r.toInt ≤ 1) ∧ (r.toInt = 0 ∨ ((0 : Int) ≤ p1.toInt + (0))) ∧ True) (fun u t => va_P (dC, dI) vwCl [(h0, .inr (11, [.ref r0_0, .int v0_1, .ref r0_2, .ref r0_3, .ref r0_4, .ref r0_5, .ref r0_6, .ref r0_7, .ref r0_8, .ref r0_9, .ref r0_10, .ref r0_11, .ref r0_12, .ref r0_13, .ref r0_14, .int (u.1 0)])), (r0_2, .inl (k1, 5, .inl (u.2.1 0)))] t.heap ∧ va_K (dC, dI) vwCl [(k1, .int)] t ∧ va_D (va_A [(h0, .inr (11, [.ref r0_0, .int v0_1, .ref r0_2, .ref r0_3, .ref r0_4, .ref r0_5, .ref r0_6, .ref r0_7, .ref r0_8, .ref r0_9, .ref r0_10, .ref r0_11, .ref r0_12, .ref r0_13, .ref r0_14, .int v0_15])), (r0_2, .inl (k1, 5, .inl f1))] sz) [(h0, .inr (11, [.ref r0_0, .int v0_1, .ref r0_2, .ref r0_3, .ref r0_4, .ref r0_5, .ref r0_6, .ref r0_7, .ref r0_8, .ref r0_9, .ref r0_10, .ref r0_11, .ref r0_12, .ref r0_13, .ref r0_14, .int (u.1 0)])), (r0_2, .inl (k1, 5, .inl (u.2.1 0)))]) (va_A [(h0, .inr (11, [.ref r0_0, .int v0_1, .ref r0_2, .ref r0_3, .ref r0_4, .ref r0_5, .ref r0_6, .ref r0_7, .ref r0_8, .ref r0_9, .ref r0_10, .ref r0_11, .ref r0_12, .ref r0_13, .ref r0_14, .int v0_15])), (r0_2, .inl (k1, 5, .inl f1))] sz)) 0 0 (va_A [(h0, .inr (11, [.ref r0_0, .int v0_1, .ref r0_2, .ref r0_3, .ref r0_4, .ref r0_5, .ref r0_6, .ref r0_7, .ref r0_8, .ref r0_9, .ref r0_10, .ref r0_11, .ref r0_12, .ref r0_13, .ref r0_14, .int v0_15])), (r0_2, .inl (k1, 5, .inl f1))] sz) := by
  refine Met.ofW (cc := cX11_seed) (maxL := 2) (ret := (some .boolean)) (by decide +kernel) rfl ?_
  intro p e s m args below meth c s₁ B hml hv
  obtain ⟨rfl, hsz, hP, hK, hD0⟩ := hv
  have hx := B.exec
  have hb := B.bytes
  have hr := B.returns
  have hts := atoms_spec (ws := wsX11_seed) B.pre
  have hown : s.vm.findClass RX11 = some m.cls := findClass_of_methodNamed B.named
  have hlocks := B.notSynchronized
  subst hsz
  have hD := hD0.self (sz := s.heap.size)
  generalize hAe : va_A [(h0, .inr (11, [.ref r0_0, .int v0_1, .ref r0_2, .ref r0_3, .ref r0_4, .ref r0_5, .ref r0_6, .ref r0_7, .ref r0_8, .ref r0_9, .ref r0_10, .ref r0_11, .ref r0_12, .ref r0_13, .ref r0_14, .int v0_15])), (r0_2, .inl (k1, 5, .inl f1))] s.heap.size = A at hD ⊢
  have hA : ∀ q : Nat, s.heap.size ≤ q → A q := fun q h => by rw [← hAe]; exact Or.inr h
  have hS : va_S A s.heap s.heap [] := va_S.rf
  have hP : va_P (dC, dI) vwCl [(h0, .inr (11, [.ref r0_0, .int v0_1, .ref r0_2, .ref r0_3, .ref r0_4, .ref r0_5, .ref r0_6, .ref r0_7, .ref r0_8, .ref r0_9, .ref r0_10, .ref r0_11, .ref r0_12, .ref r0_13, .ref r0_14, .int v0_15])), (r0_2, .inl (k1, 5, .inl f1))] s.heap := hP
  have hl := lv_entry ([.ref h0, .int p1]) (n := 2) (Nat.le_of_ble_eq_true rfl)
  rw [lg_entry_eq]
  generalize (lg_sl ([.ref h0, .int p1]) ++ List.replicate (2 - (lg_sl ([.ref h0, .int p1])).length) Slot.unset).toArray = ls at hl ⊢
  have hl : lv_has ls 2 [(0, .ref h0), (1, .int p1)] := hl
  generalize hQ : MQ below (va_Qi (fun (r : Int32) (u : zV) => ((0 : Int) ≤ r.toInt ∧ r.toInt ≤ 1) ∧ (r.toInt = 0 ∨ ((0 : Int) ≤ p1.toInt + (0))) ∧ True) (fun u t => va_P (dC, dI) vwCl [(h0, .inr (11, [.ref r0_0, .int v0_1, .ref r0_2, .ref r0_3, .ref r0_4, .ref r0_5, .ref r0_6, .ref r0_7, .ref r0_8, .ref r0_9, .ref r0_10, .ref r0_11, .ref r0_12, .ref r0_13, .ref r0_14, .int (u.1 0)])), (r0_2, .inl (k1, 5, .inl (u.2.1 0)))] t.heap ∧ va_K (dC, dI) vwCl [(k1, .int)] t ∧ va_D A [(h0, .inr (11, [.ref r0_0, .int v0_1, .ref r0_2, .ref r0_3, .ref r0_4, .ref r0_5, .ref r0_6, .ref r0_7, .ref r0_8, .ref r0_9, .ref r0_10, .ref r0_11, .ref r0_12, .ref r0_13, .ref r0_14, .int (u.1 0)])), (r0_2, .inl (k1, 5, .inl (u.2.1 0)))]) A) ([.ref h0, .int p1] : List Value).toArray s 0 0 A = Q
  refine lv_iload_n hx hb dX11_seed_0 rfl (lv_at hl 1 rfl) ?_
  refine lv_if_ge (tgt := 12) hx hb dX11_seed_1 (by decide) (fun c_1 => ?_) (fun c_1 => ?_)
  · have oc_1 := zk_le (by decide +kernel : (0 : Int32).toInt = 0) rfl c_1
    refine lv_aload_n hx hb dX11_seed_12 rfl (lv_at hl 0 rfl) ?_
    refine lv_iload_n hx hb dX11_seed_13 rfl (lv_at hl 1 rfl) ?_
    refine va_put (D := (dC, dI)) (ci := 11) (v := .int p1) (ty := .int) (C := RX11) (T := TX11) (N := 16) hx hb hts zn_X11_seed_X11 tyX11 tyX11_ok nmX11 hown hK hP hD hS 0 rfl rfl 15 (by decide) (hts (.fieldLink RX11 85 "ShortEnough" "seedNow" "I") zw_X11_seed_369) (fun _ h9 => h9) rfl (by decide +kernel) rfl rfl (Nat.le_of_ble_eq_true rfl) dX11_seed_14 (fun H locs hP hD hS => ?_)
    have hP : va_P (dC, dI) vwCl [(h0, .inr (11, [.ref r0_0, .int v0_1, .ref r0_2, .ref r0_3, .ref r0_4, .ref r0_5, .ref r0_6, .ref r0_7, .ref r0_8, .ref r0_9, .ref r0_10, .ref r0_11, .ref r0_12, .ref r0_13, .ref r0_14, .int p1])), (r0_2, .inl (k1, 5, .inl f1))] H := hP
    have hD : va_D A [(h0, .inr (11, [.ref r0_0, .int v0_1, .ref r0_2, .ref r0_3, .ref r0_4, .ref r0_5, .ref r0_6, .ref r0_7, .ref r0_8, .ref r0_9, .ref r0_10, .ref r0_11, .ref r0_12, .ref r0_13, .ref r0_14, .int p1])), (r0_2, .inl (k1, 5, .inl f1))] := hD
    refine lv_iconst (v := 1) hx hb dX11_seed_17 (by decide +kernel) ?_
    have hP9 := hP.sub (ws' := [(h0, .inr (11, [.ref r0_0, .int v0_1, .ref r0_2, .ref r0_3, .ref r0_4, .ref r0_5, .ref r0_6, .ref r0_7, .ref r0_8, .ref r0_9, .ref r0_10, .ref r0_11, .ref r0_12, .ref r0_13, .ref r0_14, .int p1])), (r0_2, .inl (k1, 5, .inl f1))]) [0, 1] rfl
    have hD9 := hD.sub (ws' := [(h0, .inr (11, [.ref r0_0, .int v0_1, .ref r0_2, .ref r0_3, .ref r0_4, .ref r0_5, .ref r0_6, .ref r0_7, .ref r0_8, .ref r0_9, .ref r0_10, .ref r0_11, .ref r0_12, .ref r0_13, .ref r0_14, .int p1])), (r0_2, .inl (k1, 5, .inl f1))]) [0, 1] (by decide) rfl
    have hK9 := hK.sub (tys' := [(k1, .int)]) [0] rfl
    rw [← hQ]
    exact W.zret (v := 1) hx hb hr rfl (fun t ht hW => ⟨⟨1, ((fun k => ([p1] : List Int32).getD k 0), (fun k => ([f1] : List (Nat → Int32)).getD k (fun _ => 0)), (fun k => ([] : List (Nat → Int64)).getD k (fun _ => 0))), rfl, ⟨(show (0 : Int) ≤ (1 : Int32).toInt ∧ (1 : Int32).toInt ≤ 1 by decide +kernel), (show ((1 : Int32).toInt = 0 ∨ ((0 : Int) ≤ p1.toInt + (0))) by right; omega), trivial⟩, by rw [ht]; exact hP9, va_K.moved hW.alike hK9, hD9⟩, hS.F ht⟩) hS.2.2 dX11_seed_18
  have oc_1 := zk_nle (by decide +kernel : (0 : Int32).toInt = 0) rfl c_1
  refine lv_aload_n hx hb dX11_seed_4 rfl (lv_at hl 0 rfl) ?_
  refine lv_iconst (v := 4) hx hb dX11_seed_5 (by decide +kernel) ?_
  have hPc := hP.sub (ws' := [(h0, .inr (11, [.ref r0_0, .int v0_1, .ref r0_2, .ref r0_3, .ref r0_4, .ref r0_5, .ref r0_6, .ref r0_7, .ref r0_8, .ref r0_9, .ref r0_10, .ref r0_11, .ref r0_12, .ref r0_13, .ref r0_14, .int v0_15])), (r0_2, .inl (k1, 5, .inl f1))]) [0, 1] rfl
  have hDc := hD.sub (ws' := [(h0, .inr (11, [.ref r0_0, .int v0_1, .ref r0_2, .ref r0_3, .ref r0_4, .ref r0_5, .ref r0_6, .ref r0_7, .ref r0_8, .ref r0_9, .ref r0_10, .ref r0_11, .ref r0_12, .ref r0_13, .ref r0_14, .int v0_15])), (r0_2, .inl (k1, 5, .inl f1))]) [0, 1] (by decide) rfl
  have hKc := hK.sub (tys' := [(k1, .int)]) [0] rfl
  have hFc := va_free (wc := [(h0, .inr (11, [.ref r0_0, .int v0_1, .ref r0_2, .ref r0_3, .ref r0_4, .ref r0_5, .ref r0_6, .ref r0_7, .ref r0_8, .ref r0_9, .ref r0_10, .ref r0_11, .ref r0_12, .ref r0_13, .ref r0_14, .int v0_15])), (r0_2, .inl (k1, 5, .inl f1))]) hD hS hA [0, 1] rfl
  refine va_calli (va_runV (As := [.int 4]) (rest := []) ⟨hx, hb, hml, hown, hts⟩ (zs_X11_refuse l dC dI h0 4 r0_0 v0_1 r0_2 r0_3 r0_4 r0_5 r0_6 r0_7 r0_8 r0_9 r0_10 r0_11 r0_12 r0_13 r0_14 v0_15 k1 f1 (by omega) s.heap.size) (cwV 1 hts gX11_seed_X11_refuse rfl rfl rfl (by decide +kernel) ⟨Nat.le_of_ble_eq_true rfl, Nat.le_of_ble_eq_true rfl⟩) ⟨fun a U g mk q => by obtain ⟨q0, q1, qP, qK, qD⟩ := q; exact ⟨q0, q1, qP, va_K.moved (u := U) (U := U.calling g mk a) (Vm.Alike.refl U.vm) qK, qD⟩, va_recv hKc hPc (ci := 11) (q0 := 0) rfl rfl, fun U hU hW => ⟨rfl, by rw [hU], by rw [hU]; exact hPc, va_K.moved hW.alike hKc, hDc.weaken (fun _ _ _ _ => trivial)⟩⟩ rfl rfl hl.1 rfl (lv_room (Nat.le_of_ble_eq_true rfl)) dX11_seed_6 ⟨Nat.le_of_ble_eq_true rfl, Nat.le_of_ble_eq_true rfl⟩) hS (fun q _ h => hFc q h) hFc (fun r_2 u_3 t H1 locs ht hvm hw_4 hB hz1 hk1 hS => ?_)
  obtain ⟨hP1, hK1, hD1⟩ := hB
  rw [ht] at hP1
  have hK1 := va_K.moved hvm.symm hK1
  obtain ⟨hP, hD⟩ := va_join (wr := []) (w1 := [(h0, .inr (11, [.ref r0_0, .int v0_1, .ref r0_2, .ref r0_3, .ref r0_4, .ref r0_5, .ref r0_6, .ref r0_7, .ref r0_8, .ref r0_9, .ref r0_10, .ref r0_11, .ref r0_12, .ref r0_13, .ref r0_14, .int v0_15])), (r0_2, .inl (k1, 5, .inl (u_3.2.1 0)))]) hP hD [0, 1] [] rfl rfl (by decide) (by decide) hk1 hFc hP1 hD1
  have hK := hK
  generalize H1 = H at hP hS ⊢
  have hP := hP.sub (ws' := [(h0, .inr (11, [.ref r0_0, .int v0_1, .ref r0_2, .ref r0_3, .ref r0_4, .ref r0_5, .ref r0_6, .ref r0_7, .ref r0_8, .ref r0_9, .ref r0_10, .ref r0_11, .ref r0_12, .ref r0_13, .ref r0_14, .int v0_15])), (r0_2, .inl (k1, 5, .inl (u_3.2.1 0)))]) [0, 1] rfl
  have hD := hD.sub (ws' := [(h0, .inr (11, [.ref r0_0, .int v0_1, .ref r0_2, .ref r0_3, .ref r0_4, .ref r0_5, .ref r0_6, .ref r0_7, .ref r0_8, .ref r0_9, .ref r0_10, .ref r0_11, .ref r0_12, .ref r0_13, .ref r0_14, .int v0_15])), (r0_2, .inl (k1, 5, .inl (u_3.2.1 0)))]) [0, 1] (by decide) rfl
  have hP : va_P (dC, dI) vwCl [(h0, .inr (11, [.ref r0_0, .int v0_1, .ref r0_2, .ref r0_3, .ref r0_4, .ref r0_5, .ref r0_6, .ref r0_7, .ref r0_8, .ref r0_9, .ref r0_10, .ref r0_11, .ref r0_12, .ref r0_13, .ref r0_14, .int v0_15])), (r0_2, .inl (k1, 5, .inl (u_3.2.1 0)))] H := hP
  have hD : va_D A [(h0, .inr (11, [.ref r0_0, .int v0_1, .ref r0_2, .ref r0_3, .ref r0_4, .ref r0_5, .ref r0_6, .ref r0_7, .ref r0_8, .ref r0_9, .ref r0_10, .ref r0_11, .ref r0_12, .ref r0_13, .ref r0_14, .int v0_15])), (r0_2, .inl (k1, 5, .inl (u_3.2.1 0)))] := hD
  obtain ⟨hr_2, -⟩ := hw_4
  refine lv_pop hx hb dX11_seed_9 rfl ?_
  refine lv_iconst (v := 0) hx hb dX11_seed_10 (by decide +kernel) ?_
  have hP9 := hP.sub (ws' := [(h0, .inr (11, [.ref r0_0, .int v0_1, .ref r0_2, .ref r0_3, .ref r0_4, .ref r0_5, .ref r0_6, .ref r0_7, .ref r0_8, .ref r0_9, .ref r0_10, .ref r0_11, .ref r0_12, .ref r0_13, .ref r0_14, .int v0_15])), (r0_2, .inl (k1, 5, .inl (u_3.2.1 0)))]) [0, 1] rfl
  have hD9 := hD.sub (ws' := [(h0, .inr (11, [.ref r0_0, .int v0_1, .ref r0_2, .ref r0_3, .ref r0_4, .ref r0_5, .ref r0_6, .ref r0_7, .ref r0_8, .ref r0_9, .ref r0_10, .ref r0_11, .ref r0_12, .ref r0_13, .ref r0_14, .int v0_15])), (r0_2, .inl (k1, 5, .inl (u_3.2.1 0)))]) [0, 1] (by decide) rfl
  have hK9 := hK.sub (tys' := [(k1, .int)]) [0] rfl
  rw [← hQ]
  exact W.zret (v := 0) hx hb hr rfl (fun t ht hW => ⟨⟨0, ((fun k => ([v0_15] : List Int32).getD k 0), (fun k => ([(u_3.2.1 0)] : List (Nat → Int32)).getD k (fun _ => 0)), (fun k => ([] : List (Nat → Int64)).getD k (fun _ => 0))), rfl, ⟨(show (0 : Int) ≤ (0 : Int32).toInt ∧ (0 : Int32).toInt ≤ 1 by decide +kernel), (show ((0 : Int32).toInt = 0 ∨ ((0 : Int) ≤ p1.toInt + (0))) by exact Or.inl (by decide +kernel)), trivial⟩, by rw [ht]; exact hP9, va_K.moved hW.alike hK9, hD9⟩, hS.F ht⟩) hS.2.2 dX11_seed_11
set_option maxHeartbeats 4000000 in
set_option maxRecDepth 100000 in
theorem zs_X11_status (l : Launch) (dC : Nat → ClassId) (dI : Nat → Nat → Nat) (h0 : Nat) (p1 : Int32) (r0_0 : Nat) (v0_1 : Int32) (r0_2 : Nat) (r0_3 : Nat) (r0_4 : Nat) (r0_5 : Nat) (r0_6 : Nat) (r0_7 : Nat) (r0_8 : Nat) (r0_9 : Nat) (r0_10 : Nat) (r0_11 : Nat) (r0_12 : Nat) (r0_13 : Nat) (r0_14 : Nat) (v0_15 : Int32) (k1 : Nat) (f1 : Nat → Int32) (hq_v0_1 : (0 : Int) ≤ v0_1.toInt ∧ v0_1.toInt ≤ 1200) (sz : Nat) : Met l yX11_status wsX11_status ({ frames := 0, cells := 0, slots := 0, locals := 0 }) (va_Pc [.ref h0, .int p1] (fun U => U.heap.size = sz ∧ va_P (dC, dI) vwCl [(h0, .inr (11, [.ref r0_0, .int v0_1, .ref r0_2, .ref r0_3, .ref r0_4, .ref r0_5, .ref r0_6, .ref r0_7, .ref r0_8, .ref r0_9, .ref r0_10, .ref r0_11, .ref r0_12, .ref r0_13, .ref r0_14, .int v0_15])), (r0_2, .inl (k1, 5, .inl f1))] U.heap ∧ va_K (dC, dI) vwCl [(k1, .int)] U ∧ va_D (fun _ => True) [(h0, .inr (11, [.ref r0_0, .int v0_1, .ref r0_2, .ref r0_3, .ref r0_4, .ref r0_5, .ref r0_6, .ref r0_7, .ref r0_8, .ref r0_9, .ref r0_10, .ref r0_11, .ref r0_12, .ref r0_13, .ref r0_14, .int v0_15])), (r0_2, .inl (k1, 5, .inl f1))])) (va_Qi (fun (r : Int32) (u : zV) => (r.toInt = -1 ∨ ((0 : Int) ≤ p1.toInt + (0) ∧ (p1.toInt : Int) ≤ 0 + (4))) ∧ True) (fun u t => va_P (dC, dI) vwCl [(h0, .inr (11, [.ref r0_0, .int v0_1, .ref r0_2, .ref r0_3, .ref r0_4, .ref r0_5, .ref r0_6, .ref r0_7, .ref r0_8, .ref r0_9, .ref r0_10, .ref r0_11, .ref r0_12, .ref r0_13, .ref r0_14, .int v0_15])), (r0_2, .inl (k1, 5, .inl f1))] t.heap ∧ va_K (dC, dI) vwCl [(k1, .int)] t ∧ va_D (va_A [(h0, .inr (11, [.ref r0_0, .int v0_1, .ref r0_2, .ref r0_3, .ref r0_4, .ref r0_5, .ref r0_6, .ref r0_7, .ref r0_8, .ref r0_9, .ref r0_10, .ref r0_11, .ref r0_12, .ref r0_13, .ref r0_14, .int v0_15])), (r0_2, .inl (k1, 5, .inl f1))] sz) [(h0, .inr (11, [.ref r0_0, .int v0_1, .ref r0_2, .ref r0_3, .ref r0_4, .ref r0_5, .ref r0_6, .ref r0_7, .ref r0_8, .ref r0_9, .ref r0_10, .ref r0_11, .ref r0_12, .ref r0_13, .ref r0_14, .int v0_15])), (r0_2, .inl (k1, 5, .inl f1))]) (va_A [(h0, .inr (11, [.ref r0_0, .int v0_1, .ref r0_2, .ref r0_3, .ref r0_4, .ref r0_5, .ref r0_6, .ref r0_7, .ref r0_8, .ref r0_9, .ref r0_10, .ref r0_11, .ref r0_12, .ref r0_13, .ref r0_14, .int v0_15])), (r0_2, .inl (k1, 5, .inl f1))] sz)) 0 0 (va_A [(h0, .inr (11, [.ref r0_0, .int v0_1, .ref r0_2, .ref r0_3, .ref r0_4, .ref r0_5, .ref r0_6, .ref r0_7, .ref r0_8, .ref r0_9, .ref r0_10, .ref r0_11, .ref r0_12, .ref r0_13, .ref r0_14, .int v0_15])), (r0_2, .inl (k1, 5, .inl f1))] sz) := by
  refine Met.ofW (cc := cX11_status) (maxL := 2) (ret := (some .int)) (by decide +kernel) rfl ?_
  intro p e s m args below meth c s₁ B hml hv
  obtain ⟨rfl, hsz, hP, hK, hD0⟩ := hv
  have hx := B.exec
  have hb := B.bytes
  have hr := B.returns
  have hts := atoms_spec (ws := wsX11_status) B.pre
  have hown : s.vm.findClass RX11 = some m.cls := findClass_of_methodNamed B.named
  have hlocks := B.notSynchronized
  subst hsz
  have hD := hD0.self (sz := s.heap.size)
  generalize hAe : va_A [(h0, .inr (11, [.ref r0_0, .int v0_1, .ref r0_2, .ref r0_3, .ref r0_4, .ref r0_5, .ref r0_6, .ref r0_7, .ref r0_8, .ref r0_9, .ref r0_10, .ref r0_11, .ref r0_12, .ref r0_13, .ref r0_14, .int v0_15])), (r0_2, .inl (k1, 5, .inl f1))] s.heap.size = A at hD ⊢
  have hA : ∀ q : Nat, s.heap.size ≤ q → A q := fun q h => by rw [← hAe]; exact Or.inr h
  have hS : va_S A s.heap s.heap [] := va_S.rf
  have hP : va_P (dC, dI) vwCl [(h0, .inr (11, [.ref r0_0, .int v0_1, .ref r0_2, .ref r0_3, .ref r0_4, .ref r0_5, .ref r0_6, .ref r0_7, .ref r0_8, .ref r0_9, .ref r0_10, .ref r0_11, .ref r0_12, .ref r0_13, .ref r0_14, .int v0_15])), (r0_2, .inl (k1, 5, .inl f1))] s.heap := hP
  have hl := lv_entry ([.ref h0, .int p1]) (n := 2) (Nat.le_of_ble_eq_true rfl)
  rw [lg_entry_eq]
  generalize (lg_sl ([.ref h0, .int p1]) ++ List.replicate (2 - (lg_sl ([.ref h0, .int p1])).length) Slot.unset).toArray = ls at hl ⊢
  have hl : lv_has ls 2 [(0, .ref h0), (1, .int p1)] := hl
  generalize hQ : MQ below (va_Qi (fun (r : Int32) (u : zV) => (r.toInt = -1 ∨ ((0 : Int) ≤ p1.toInt + (0) ∧ (p1.toInt : Int) ≤ 0 + (4))) ∧ True) (fun u t => va_P (dC, dI) vwCl [(h0, .inr (11, [.ref r0_0, .int v0_1, .ref r0_2, .ref r0_3, .ref r0_4, .ref r0_5, .ref r0_6, .ref r0_7, .ref r0_8, .ref r0_9, .ref r0_10, .ref r0_11, .ref r0_12, .ref r0_13, .ref r0_14, .int v0_15])), (r0_2, .inl (k1, 5, .inl f1))] t.heap ∧ va_K (dC, dI) vwCl [(k1, .int)] t ∧ va_D A [(h0, .inr (11, [.ref r0_0, .int v0_1, .ref r0_2, .ref r0_3, .ref r0_4, .ref r0_5, .ref r0_6, .ref r0_7, .ref r0_8, .ref r0_9, .ref r0_10, .ref r0_11, .ref r0_12, .ref r0_13, .ref r0_14, .int v0_15])), (r0_2, .inl (k1, 5, .inl f1))]) A) ([.ref h0, .int p1] : List Value).toArray s 0 0 A = Q
  refine lv_iload_n hx hb dX11_status_0 rfl (lv_at hl 1 rfl) ?_
  refine lv_if_lt (tgt := 18) hx hb dX11_status_1 (by decide) (fun c_1 => ?_) (fun c_1 => ?_)
  · have oc_1 := zk_lt rfl (by decide +kernel : (0 : Int32).toInt = 0) c_1
    refine lv_iconst (v := (-1)) hx hb dX11_status_18 (by decide +kernel) ?_
    have hP9 := hP.sub (ws' := [(h0, .inr (11, [.ref r0_0, .int v0_1, .ref r0_2, .ref r0_3, .ref r0_4, .ref r0_5, .ref r0_6, .ref r0_7, .ref r0_8, .ref r0_9, .ref r0_10, .ref r0_11, .ref r0_12, .ref r0_13, .ref r0_14, .int v0_15])), (r0_2, .inl (k1, 5, .inl f1))]) [0, 1] rfl
    have hD9 := hD.sub (ws' := [(h0, .inr (11, [.ref r0_0, .int v0_1, .ref r0_2, .ref r0_3, .ref r0_4, .ref r0_5, .ref r0_6, .ref r0_7, .ref r0_8, .ref r0_9, .ref r0_10, .ref r0_11, .ref r0_12, .ref r0_13, .ref r0_14, .int v0_15])), (r0_2, .inl (k1, 5, .inl f1))]) [0, 1] (by decide) rfl
    have hK9 := hK.sub (tys' := [(k1, .int)]) [0] rfl
    rw [← hQ]
    exact W.iret (v := (-1)) hx hb hr (fun t ht hW => ⟨⟨(-1), ((fun k => ([] : List Int32).getD k 0), (fun k => ([] : List (Nat → Int32)).getD k (fun _ => 0)), (fun k => ([] : List (Nat → Int64)).getD k (fun _ => 0))), rfl, ⟨(show (((-1) : Int32).toInt = -1 ∨ ((0 : Int) ≤ p1.toInt + (0) ∧ (p1.toInt : Int) ≤ 0 + (4))) by exact Or.inl (by decide +kernel)), trivial⟩, by rw [ht]; exact hP9, va_K.moved hW.alike hK9, hD9⟩, hS.F ht⟩) hS.2.2 dX11_status_19
  have oc_1 := zk_nlt rfl (by decide +kernel : (0 : Int32).toInt = 0) c_1
  refine lv_iload_n hx hb dX11_status_4 rfl (lv_at hl 1 rfl) ?_
  refine lv_iconst (v := 5) hx hb dX11_status_5 (by decide +kernel) ?_
  refine lv_icmp_ge (tgt := 18) hx hb dX11_status_6 (by decide) (fun c_2 => ?_) (fun c_2 => ?_)
  · have oc_2 := zk_le (by decide +kernel : (5 : Int32).toInt = 5) rfl c_2
    refine lv_iconst (v := (-1)) hx hb dX11_status_18 (by decide +kernel) ?_
    have hP9 := hP.sub (ws' := [(h0, .inr (11, [.ref r0_0, .int v0_1, .ref r0_2, .ref r0_3, .ref r0_4, .ref r0_5, .ref r0_6, .ref r0_7, .ref r0_8, .ref r0_9, .ref r0_10, .ref r0_11, .ref r0_12, .ref r0_13, .ref r0_14, .int v0_15])), (r0_2, .inl (k1, 5, .inl f1))]) [0, 1] rfl
    have hD9 := hD.sub (ws' := [(h0, .inr (11, [.ref r0_0, .int v0_1, .ref r0_2, .ref r0_3, .ref r0_4, .ref r0_5, .ref r0_6, .ref r0_7, .ref r0_8, .ref r0_9, .ref r0_10, .ref r0_11, .ref r0_12, .ref r0_13, .ref r0_14, .int v0_15])), (r0_2, .inl (k1, 5, .inl f1))]) [0, 1] (by decide) rfl
    have hK9 := hK.sub (tys' := [(k1, .int)]) [0] rfl
    rw [← hQ]
    exact W.iret (v := (-1)) hx hb hr (fun t ht hW => ⟨⟨(-1), ((fun k => ([] : List Int32).getD k 0), (fun k => ([] : List (Nat → Int32)).getD k (fun _ => 0)), (fun k => ([] : List (Nat → Int64)).getD k (fun _ => 0))), rfl, ⟨(show (((-1) : Int32).toInt = -1 ∨ ((0 : Int) ≤ p1.toInt + (0) ∧ (p1.toInt : Int) ≤ 0 + (4))) by exact Or.inl (by decide +kernel)), trivial⟩, by rw [ht]; exact hP9, va_K.moved hW.alike hK9, hD9⟩, hS.F ht⟩) hS.2.2 dX11_status_19
  have oc_2 := zk_nle (by decide +kernel : (5 : Int32).toInt = 5) rfl c_2
  refine lv_aload_n hx hb dX11_status_9 rfl (lv_at hl 0 rfl) ?_
  refine va_get (D := (dC, dI)) (ci := 11) (v := .ref r0_2) (C := RX11) (T := TX11) (N := 16) hx hb hts zn_X11_status_X11 hown hK hP 0 rfl rfl 2 (by decide) (hts (.fieldLink RX11 13 "ShortEnough" "refused" "[I") zw_X11_status_371) (fun _ h9 => h9) rfl dX11_status_10 ?_
  refine lv_iload_n hx hb dX11_status_13 rfl (lv_at hl 1 rfl) ?_
  refine va_iald hx hb hK hP 1 0 rfl rfl (vp_in_iff.mpr ⟨by omega, by omega⟩) dX11_status_14 ?_
  refine lv_topi (fun x_3 ex_3 => ?_)
  refine lv_goto (tgt := 19) hx hb dX11_status_15 (by decide) ?_
  have hP9 := hP.sub (ws' := [(h0, .inr (11, [.ref r0_0, .int v0_1, .ref r0_2, .ref r0_3, .ref r0_4, .ref r0_5, .ref r0_6, .ref r0_7, .ref r0_8, .ref r0_9, .ref r0_10, .ref r0_11, .ref r0_12, .ref r0_13, .ref r0_14, .int v0_15])), (r0_2, .inl (k1, 5, .inl f1))]) [0, 1] rfl
  have hD9 := hD.sub (ws' := [(h0, .inr (11, [.ref r0_0, .int v0_1, .ref r0_2, .ref r0_3, .ref r0_4, .ref r0_5, .ref r0_6, .ref r0_7, .ref r0_8, .ref r0_9, .ref r0_10, .ref r0_11, .ref r0_12, .ref r0_13, .ref r0_14, .int v0_15])), (r0_2, .inl (k1, 5, .inl f1))]) [0, 1] (by decide) rfl
  have hK9 := hK.sub (tys' := [(k1, .int)]) [0] rfl
  rw [← hQ]
  exact W.iret (v := x_3) hx hb hr (fun t ht hW => ⟨⟨x_3, ((fun k => ([] : List Int32).getD k 0), (fun k => ([] : List (Nat → Int32)).getD k (fun _ => 0)), (fun k => ([] : List (Nat → Int64)).getD k (fun _ => 0))), rfl, ⟨(show ((x_3 : Int32).toInt = -1 ∨ ((0 : Int) ≤ p1.toInt + (0) ∧ (p1.toInt : Int) ≤ 0 + (4))) by omega), trivial⟩, by rw [ht]; exact hP9, va_K.moved hW.alike hK9, hD9⟩, hS.F ht⟩) hS.2.2 dX11_status_19
set_option maxHeartbeats 4000000 in
set_option maxRecDepth 100000 in
theorem zs_X11_feed (l : Launch) (dC : Nat → ClassId) (dI : Nat → Nat → Nat) (h0 : Nat) (p1 : Int32) (p2 : Int32) (p3 : Int32) (p4 : Int32) (p5 : Int32) (r0_0 : Nat) (v0_1 : Int32) (r0_2 : Nat) (r0_3 : Nat) (r0_4 : Nat) (r0_5 : Nat) (r0_6 : Nat) (r0_7 : Nat) (r0_8 : Nat) (r0_9 : Nat) (r0_10 : Nat) (r0_11 : Nat) (r0_12 : Nat) (r0_13 : Nat) (r0_14 : Nat) (v0_15 : Int32) (k1 : Nat) (f1 : Nat → Int32) (k2 : Nat) (f2 : Nat → Int32) (hq_v0_1 : (0 : Int) ≤ v0_1.toInt ∧ v0_1.toInt ≤ 1200) (sz : Nat) : Met l yX11_feed wsX11_feed ({ frames := 1, cells := 0, slots := 0, locals := 22 }) (va_Pc [.ref h0, .int p1, .int p2, .int p3, .int p4, .int p5] (fun U => U.heap.size = sz ∧ va_P (dC, dI) vwCl [(h0, .inr (11, [.ref r0_0, .int v0_1, .ref r0_2, .ref r0_3, .ref r0_4, .ref r0_5, .ref r0_6, .ref r0_7, .ref r0_8, .ref r0_9, .ref r0_10, .ref r0_11, .ref r0_12, .ref r0_13, .ref r0_14, .int v0_15])), (r0_0, .inl (k1, 1200, .inl f1)), (r0_2, .inl (k2, 5, .inl f2))] U.heap ∧ va_K (dC, dI) vwCl [(k1, .byte), (k2, .int)] U ∧ va_D (fun _ => True) [(h0, .inr (11, [.ref r0_0, .int v0_1, .ref r0_2, .ref r0_3, .ref r0_4, .ref r0_5, .ref r0_6, .ref r0_7, .ref r0_8, .ref r0_9, .ref r0_10, .ref r0_11, .ref r0_12, .ref r0_13, .ref r0_14, .int v0_15])), (r0_0, .inl (k1, 1200, .inl f1)), (r0_2, .inl (k2, 5, .inl f2))])) (va_Qi (fun (r : Int32) (u : zV) => ((-1 : Int) ≤ r.toInt ∧ r.toInt ≤ 1200) ∧ ((0 : Int) ≤ (u.1 0).toInt ∧ (u.1 0).toInt ≤ 1200) ∧ True) (fun u t => va_P (dC, dI) vwCl [(h0, .inr (11, [.ref r0_0, .int (u.1 0), .ref r0_2, .ref r0_3, .ref r0_4, .ref r0_5, .ref r0_6, .ref r0_7, .ref r0_8, .ref r0_9, .ref r0_10, .ref r0_11, .ref r0_12, .ref r0_13, .ref r0_14, .int v0_15])), (r0_0, .inl (k1, 1200, .inl (u.2.1 0))), (r0_2, .inl (k2, 5, .inl (u.2.1 1)))] t.heap ∧ va_K (dC, dI) vwCl [(k1, .byte), (k2, .int)] t ∧ va_D (va_A [(h0, .inr (11, [.ref r0_0, .int v0_1, .ref r0_2, .ref r0_3, .ref r0_4, .ref r0_5, .ref r0_6, .ref r0_7, .ref r0_8, .ref r0_9, .ref r0_10, .ref r0_11, .ref r0_12, .ref r0_13, .ref r0_14, .int v0_15])), (r0_0, .inl (k1, 1200, .inl f1)), (r0_2, .inl (k2, 5, .inl f2))] sz) [(h0, .inr (11, [.ref r0_0, .int (u.1 0), .ref r0_2, .ref r0_3, .ref r0_4, .ref r0_5, .ref r0_6, .ref r0_7, .ref r0_8, .ref r0_9, .ref r0_10, .ref r0_11, .ref r0_12, .ref r0_13, .ref r0_14, .int v0_15])), (r0_0, .inl (k1, 1200, .inl (u.2.1 0))), (r0_2, .inl (k2, 5, .inl (u.2.1 1)))]) (va_A [(h0, .inr (11, [.ref r0_0, .int v0_1, .ref r0_2, .ref r0_3, .ref r0_4, .ref r0_5, .ref r0_6, .ref r0_7, .ref r0_8, .ref r0_9, .ref r0_10, .ref r0_11, .ref r0_12, .ref r0_13, .ref r0_14, .int v0_15])), (r0_0, .inl (k1, 1200, .inl f1)), (r0_2, .inl (k2, 5, .inl f2))] sz)) 0 0 (va_A [(h0, .inr (11, [.ref r0_0, .int v0_1, .ref r0_2, .ref r0_3, .ref r0_4, .ref r0_5, .ref r0_6, .ref r0_7, .ref r0_8, .ref r0_9, .ref r0_10, .ref r0_11, .ref r0_12, .ref r0_13, .ref r0_14, .int v0_15])), (r0_0, .inl (k1, 1200, .inl f1)), (r0_2, .inl (k2, 5, .inl f2))] sz) := by
  refine Met.ofW (cc := cX11_feed) (maxL := 6) (ret := (some .int)) (by decide +kernel) rfl ?_
  intro p e s m args below meth c s₁ B hml hv
  obtain ⟨rfl, hsz, hP, hK, hD0⟩ := hv
  have hx := B.exec
  have hb := B.bytes
  have hr := B.returns
  have hts := atoms_spec (ws := wsX11_feed) B.pre
  have hown : s.vm.findClass RX11 = some m.cls := findClass_of_methodNamed B.named
  have hlocks := B.notSynchronized
  subst hsz
  have hD := hD0.self (sz := s.heap.size)
  generalize hAe : va_A [(h0, .inr (11, [.ref r0_0, .int v0_1, .ref r0_2, .ref r0_3, .ref r0_4, .ref r0_5, .ref r0_6, .ref r0_7, .ref r0_8, .ref r0_9, .ref r0_10, .ref r0_11, .ref r0_12, .ref r0_13, .ref r0_14, .int v0_15])), (r0_0, .inl (k1, 1200, .inl f1)), (r0_2, .inl (k2, 5, .inl f2))] s.heap.size = A at hD ⊢
  have hA : ∀ q : Nat, s.heap.size ≤ q → A q := fun q h => by rw [← hAe]; exact Or.inr h
  have hS : va_S A s.heap s.heap [] := va_S.rf
  have hP : va_P (dC, dI) vwCl [(h0, .inr (11, [.ref r0_0, .int v0_1, .ref r0_2, .ref r0_3, .ref r0_4, .ref r0_5, .ref r0_6, .ref r0_7, .ref r0_8, .ref r0_9, .ref r0_10, .ref r0_11, .ref r0_12, .ref r0_13, .ref r0_14, .int v0_15])), (r0_0, .inl (k1, 1200, .inl f1)), (r0_2, .inl (k2, 5, .inl f2))] s.heap := hP
  have hl := lv_entry ([.ref h0, .int p1, .int p2, .int p3, .int p4, .int p5]) (n := 6) (Nat.le_of_ble_eq_true rfl)
  rw [lg_entry_eq]
  generalize (lg_sl ([.ref h0, .int p1, .int p2, .int p3, .int p4, .int p5]) ++ List.replicate (6 - (lg_sl ([.ref h0, .int p1, .int p2, .int p3, .int p4, .int p5])).length) Slot.unset).toArray = ls at hl ⊢
  have hl : lv_has ls 6 [(0, .ref h0), (1, .int p1), (2, .int p2), (3, .int p3), (4, .int p4), (5, .int p5)] := hl
  generalize hQ : MQ below (va_Qi (fun (r : Int32) (u : zV) => ((-1 : Int) ≤ r.toInt ∧ r.toInt ≤ 1200) ∧ ((0 : Int) ≤ (u.1 0).toInt ∧ (u.1 0).toInt ≤ 1200) ∧ True) (fun u t => va_P (dC, dI) vwCl [(h0, .inr (11, [.ref r0_0, .int (u.1 0), .ref r0_2, .ref r0_3, .ref r0_4, .ref r0_5, .ref r0_6, .ref r0_7, .ref r0_8, .ref r0_9, .ref r0_10, .ref r0_11, .ref r0_12, .ref r0_13, .ref r0_14, .int v0_15])), (r0_0, .inl (k1, 1200, .inl (u.2.1 0))), (r0_2, .inl (k2, 5, .inl (u.2.1 1)))] t.heap ∧ va_K (dC, dI) vwCl [(k1, .byte), (k2, .int)] t ∧ va_D A [(h0, .inr (11, [.ref r0_0, .int (u.1 0), .ref r0_2, .ref r0_3, .ref r0_4, .ref r0_5, .ref r0_6, .ref r0_7, .ref r0_8, .ref r0_9, .ref r0_10, .ref r0_11, .ref r0_12, .ref r0_13, .ref r0_14, .int v0_15])), (r0_0, .inl (k1, 1200, .inl (u.2.1 0))), (r0_2, .inl (k2, 5, .inl (u.2.1 1)))]) A) ([.ref h0, .int p1, .int p2, .int p3, .int p4, .int p5] : List Value).toArray s 0 0 A = Q
  refine lv_aload_n hx hb dX11_feed_0 rfl (lv_at hl 0 rfl) ?_
  refine va_get (D := (dC, dI)) (ci := 11) (v := .int v0_1) (C := RX11) (T := TX11) (N := 16) hx hb hts zn_X11_feed_X11 hown hK hP 0 rfl rfl 1 (by decide) (hts (.fieldLink RX11 89 "ShortEnough" "tapeLength" "I") zw_X11_feed_373) (fun _ h9 => h9) rfl dX11_feed_1 ?_
  refine lv_sipush (v := 1180) hx hb dX11_feed_4 (by decide +kernel) ?_
  refine lv_icmp_le (tgt := 16) hx hb dX11_feed_7 (by decide) (fun c_1 => ?_) (fun c_1 => ?_)
  · have oc_1 := zk_le rfl (by decide +kernel : (1180 : Int32).toInt = 1180) c_1
    refine lv_aload_n hx hb dX11_feed_16 rfl (lv_at hl 0 rfl) ?_
    refine lv_iload_n hx hb dX11_feed_17 rfl (lv_at hl 1 rfl) ?_
    have hPc := hP.sub (ws' := [(h0, .inr (11, [.ref r0_0, .int v0_1, .ref r0_2, .ref r0_3, .ref r0_4, .ref r0_5, .ref r0_6, .ref r0_7, .ref r0_8, .ref r0_9, .ref r0_10, .ref r0_11, .ref r0_12, .ref r0_13, .ref r0_14, .int v0_15])), (r0_0, .inl (k1, 1200, .inl f1))]) [0, 1] rfl
    have hDc := hD.sub (ws' := [(h0, .inr (11, [.ref r0_0, .int v0_1, .ref r0_2, .ref r0_3, .ref r0_4, .ref r0_5, .ref r0_6, .ref r0_7, .ref r0_8, .ref r0_9, .ref r0_10, .ref r0_11, .ref r0_12, .ref r0_13, .ref r0_14, .int v0_15])), (r0_0, .inl (k1, 1200, .inl f1))]) [0, 1] (by decide) rfl
    have hKc := hK.sub (tys' := [(k1, .byte)]) [0] rfl
    have hFc := va_free (wc := [(h0, .inr (11, [.ref r0_0, .int v0_1, .ref r0_2, .ref r0_3, .ref r0_4, .ref r0_5, .ref r0_6, .ref r0_7, .ref r0_8, .ref r0_9, .ref r0_10, .ref r0_11, .ref r0_12, .ref r0_13, .ref r0_14, .int v0_15])), (r0_0, .inl (k1, 1200, .inl f1))]) hD hS hA [0, 1] rfl
    refine va_callv (va_runV (As := [.int p1]) (rest := []) ⟨hx, hb, hml, hown, hts⟩ (zs_X11_putBytes l dC dI h0 p1 r0_0 v0_1 r0_2 r0_3 r0_4 r0_5 r0_6 r0_7 r0_8 r0_9 r0_10 r0_11 r0_12 r0_13 r0_14 v0_15 k1 f1 (by omega) s.heap.size) (cwV 1 hts gX11_feed_X11_putBytes rfl rfl rfl (by decide +kernel) ⟨Nat.le_of_ble_eq_true rfl, Nat.le_of_ble_eq_true rfl⟩) ⟨fun a U g mk q => by obtain ⟨q0, q1, qP, qK, qD⟩ := q; exact ⟨q0, q1, qP, va_K.moved (u := U) (U := U.calling g mk a) (Vm.Alike.refl U.vm) qK, qD⟩, va_recv hKc hPc (ci := 11) (q0 := 0) rfl rfl, fun U hU hW => ⟨rfl, by rw [hU], by rw [hU]; exact hPc, va_K.moved hW.alike hKc, hDc.weaken (fun _ _ _ _ => trivial)⟩⟩ rfl rfl hl.1 rfl (lv_room (Nat.le_of_ble_eq_true rfl)) dX11_feed_18 ⟨Nat.le_of_ble_eq_true rfl, Nat.le_of_ble_eq_true rfl⟩) hS (fun q _ h => hFc q h) hFc (fun u_3 t H1 locs ht hvm hw_4 hB hz1 hk1 hS => ?_)
    obtain ⟨hP1, hK1, hD1⟩ := hB
    rw [ht] at hP1
    have hK1 := va_K.moved hvm.symm hK1
    obtain ⟨hP, hD⟩ := va_join (wr := [(r0_2, .inl (k2, 5, .inl f2))]) (w1 := [(h0, .inr (11, [.ref r0_0, .int (u_3.1 0), .ref r0_2, .ref r0_3, .ref r0_4, .ref r0_5, .ref r0_6, .ref r0_7, .ref r0_8, .ref r0_9, .ref r0_10, .ref r0_11, .ref r0_12, .ref r0_13, .ref r0_14, .int v0_15])), (r0_0, .inl (k1, 1200, .inl (u_3.2.1 0)))]) hP hD [0, 1] [2] rfl rfl (by decide) (by decide) hk1 hFc hP1 hD1
    have hK := hK
    generalize H1 = H at hP hS ⊢
    have hP := hP.sub (ws' := [(h0, .inr (11, [.ref r0_0, .int (u_3.1 0), .ref r0_2, .ref r0_3, .ref r0_4, .ref r0_5, .ref r0_6, .ref r0_7, .ref r0_8, .ref r0_9, .ref r0_10, .ref r0_11, .ref r0_12, .ref r0_13, .ref r0_14, .int v0_15])), (r0_0, .inl (k1, 1200, .inl (u_3.2.1 0))), (r0_2, .inl (k2, 5, .inl f2))]) [1, 2, 0] rfl
    have hD := hD.sub (ws' := [(h0, .inr (11, [.ref r0_0, .int (u_3.1 0), .ref r0_2, .ref r0_3, .ref r0_4, .ref r0_5, .ref r0_6, .ref r0_7, .ref r0_8, .ref r0_9, .ref r0_10, .ref r0_11, .ref r0_12, .ref r0_13, .ref r0_14, .int v0_15])), (r0_0, .inl (k1, 1200, .inl (u_3.2.1 0))), (r0_2, .inl (k2, 5, .inl f2))]) [1, 2, 0] (by decide) rfl
    have hP : va_P (dC, dI) vwCl [(h0, .inr (11, [.ref r0_0, .int (u_3.1 0), .ref r0_2, .ref r0_3, .ref r0_4, .ref r0_5, .ref r0_6, .ref r0_7, .ref r0_8, .ref r0_9, .ref r0_10, .ref r0_11, .ref r0_12, .ref r0_13, .ref r0_14, .int v0_15])), (r0_0, .inl (k1, 1200, .inl (u_3.2.1 0))), (r0_2, .inl (k2, 5, .inl f2))] H := hP
    have hD : va_D A [(h0, .inr (11, [.ref r0_0, .int (u_3.1 0), .ref r0_2, .ref r0_3, .ref r0_4, .ref r0_5, .ref r0_6, .ref r0_7, .ref r0_8, .ref r0_9, .ref r0_10, .ref r0_11, .ref r0_12, .ref r0_13, .ref r0_14, .int v0_15])), (r0_0, .inl (k1, 1200, .inl (u_3.2.1 0))), (r0_2, .inl (k2, 5, .inl f2))] := hD
    obtain ⟨hmr_2_0, -⟩ := hw_4
    refine lv_aload_n hx hb dX11_feed_21 rfl (lv_at hl 0 rfl) ?_
    refine lv_iload_n hx hb dX11_feed_22 rfl (lv_at hl 2 rfl) ?_
    have hPc := hP.sub (ws' := [(h0, .inr (11, [.ref r0_0, .int (u_3.1 0), .ref r0_2, .ref r0_3, .ref r0_4, .ref r0_5, .ref r0_6, .ref r0_7, .ref r0_8, .ref r0_9, .ref r0_10, .ref r0_11, .ref r0_12, .ref r0_13, .ref r0_14, .int v0_15])), (r0_0, .inl (k1, 1200, .inl (u_3.2.1 0)))]) [0, 1] rfl
    have hDc := hD.sub (ws' := [(h0, .inr (11, [.ref r0_0, .int (u_3.1 0), .ref r0_2, .ref r0_3, .ref r0_4, .ref r0_5, .ref r0_6, .ref r0_7, .ref r0_8, .ref r0_9, .ref r0_10, .ref r0_11, .ref r0_12, .ref r0_13, .ref r0_14, .int v0_15])), (r0_0, .inl (k1, 1200, .inl (u_3.2.1 0)))]) [0, 1] (by decide) rfl
    have hKc := hK.sub (tys' := [(k1, .byte)]) [0] rfl
    have hFc := va_free (wc := [(h0, .inr (11, [.ref r0_0, .int (u_3.1 0), .ref r0_2, .ref r0_3, .ref r0_4, .ref r0_5, .ref r0_6, .ref r0_7, .ref r0_8, .ref r0_9, .ref r0_10, .ref r0_11, .ref r0_12, .ref r0_13, .ref r0_14, .int v0_15])), (r0_0, .inl (k1, 1200, .inl (u_3.2.1 0)))]) hD hS hA [0, 1] rfl
    refine va_callv (va_runV (As := [.int p2]) (rest := []) ⟨hx, hb, hml, hown, hts⟩ (zs_X11_putBytes l dC dI h0 p2 r0_0 (u_3.1 0) r0_2 r0_3 r0_4 r0_5 r0_6 r0_7 r0_8 r0_9 r0_10 r0_11 r0_12 r0_13 r0_14 v0_15 k1 (u_3.2.1 0) (by omega) H.size) (cwV 1 hts gX11_feed_X11_putBytes rfl rfl rfl (by decide +kernel) ⟨Nat.le_of_ble_eq_true rfl, Nat.le_of_ble_eq_true rfl⟩) ⟨fun a U g mk q => by obtain ⟨q0, q1, qP, qK, qD⟩ := q; exact ⟨q0, q1, qP, va_K.moved (u := U) (U := U.calling g mk a) (Vm.Alike.refl U.vm) qK, qD⟩, va_recv hKc hPc (ci := 11) (q0 := 0) rfl rfl, fun U hU hW => ⟨rfl, by rw [hU], by rw [hU]; exact hPc, va_K.moved hW.alike hKc, hDc.weaken (fun _ _ _ _ => trivial)⟩⟩ rfl rfl hl.1 rfl (lv_room (Nat.le_of_ble_eq_true rfl)) dX11_feed_23 ⟨Nat.le_of_ble_eq_true rfl, Nat.le_of_ble_eq_true rfl⟩) hS (fun q _ h => hFc q h) hFc (fun u_6 t H1 locs ht hvm hw_7 hB hz1 hk1 hS => ?_)
    obtain ⟨hP1, hK1, hD1⟩ := hB
    rw [ht] at hP1
    have hK1 := va_K.moved hvm.symm hK1
    obtain ⟨hP, hD⟩ := va_join (wr := [(r0_2, .inl (k2, 5, .inl f2))]) (w1 := [(h0, .inr (11, [.ref r0_0, .int (u_6.1 0), .ref r0_2, .ref r0_3, .ref r0_4, .ref r0_5, .ref r0_6, .ref r0_7, .ref r0_8, .ref r0_9, .ref r0_10, .ref r0_11, .ref r0_12, .ref r0_13, .ref r0_14, .int v0_15])), (r0_0, .inl (k1, 1200, .inl (u_6.2.1 0)))]) hP hD [0, 1] [2] rfl rfl (by decide) (by decide) hk1 hFc hP1 hD1
    have hK := hK
    generalize H1 = H at hP hS ⊢
    have hP := hP.sub (ws' := [(h0, .inr (11, [.ref r0_0, .int (u_6.1 0), .ref r0_2, .ref r0_3, .ref r0_4, .ref r0_5, .ref r0_6, .ref r0_7, .ref r0_8, .ref r0_9, .ref r0_10, .ref r0_11, .ref r0_12, .ref r0_13, .ref r0_14, .int v0_15])), (r0_0, .inl (k1, 1200, .inl (u_6.2.1 0))), (r0_2, .inl (k2, 5, .inl f2))]) [1, 2, 0] rfl
    have hD := hD.sub (ws' := [(h0, .inr (11, [.ref r0_0, .int (u_6.1 0), .ref r0_2, .ref r0_3, .ref r0_4, .ref r0_5, .ref r0_6, .ref r0_7, .ref r0_8, .ref r0_9, .ref r0_10, .ref r0_11, .ref r0_12, .ref r0_13, .ref r0_14, .int v0_15])), (r0_0, .inl (k1, 1200, .inl (u_6.2.1 0))), (r0_2, .inl (k2, 5, .inl f2))]) [1, 2, 0] (by decide) rfl
    have hP : va_P (dC, dI) vwCl [(h0, .inr (11, [.ref r0_0, .int (u_6.1 0), .ref r0_2, .ref r0_3, .ref r0_4, .ref r0_5, .ref r0_6, .ref r0_7, .ref r0_8, .ref r0_9, .ref r0_10, .ref r0_11, .ref r0_12, .ref r0_13, .ref r0_14, .int v0_15])), (r0_0, .inl (k1, 1200, .inl (u_6.2.1 0))), (r0_2, .inl (k2, 5, .inl f2))] H := hP
    have hD : va_D A [(h0, .inr (11, [.ref r0_0, .int (u_6.1 0), .ref r0_2, .ref r0_3, .ref r0_4, .ref r0_5, .ref r0_6, .ref r0_7, .ref r0_8, .ref r0_9, .ref r0_10, .ref r0_11, .ref r0_12, .ref r0_13, .ref r0_14, .int v0_15])), (r0_0, .inl (k1, 1200, .inl (u_6.2.1 0))), (r0_2, .inl (k2, 5, .inl f2))] := hD
    obtain ⟨hmr_5_0, -⟩ := hw_7
    refine lv_aload_n hx hb dX11_feed_26 rfl (lv_at hl 0 rfl) ?_
    refine lv_iload_n hx hb dX11_feed_27 rfl (lv_at hl 3 rfl) ?_
    have hPc := hP.sub (ws' := [(h0, .inr (11, [.ref r0_0, .int (u_6.1 0), .ref r0_2, .ref r0_3, .ref r0_4, .ref r0_5, .ref r0_6, .ref r0_7, .ref r0_8, .ref r0_9, .ref r0_10, .ref r0_11, .ref r0_12, .ref r0_13, .ref r0_14, .int v0_15])), (r0_0, .inl (k1, 1200, .inl (u_6.2.1 0)))]) [0, 1] rfl
    have hDc := hD.sub (ws' := [(h0, .inr (11, [.ref r0_0, .int (u_6.1 0), .ref r0_2, .ref r0_3, .ref r0_4, .ref r0_5, .ref r0_6, .ref r0_7, .ref r0_8, .ref r0_9, .ref r0_10, .ref r0_11, .ref r0_12, .ref r0_13, .ref r0_14, .int v0_15])), (r0_0, .inl (k1, 1200, .inl (u_6.2.1 0)))]) [0, 1] (by decide) rfl
    have hKc := hK.sub (tys' := [(k1, .byte)]) [0] rfl
    have hFc := va_free (wc := [(h0, .inr (11, [.ref r0_0, .int (u_6.1 0), .ref r0_2, .ref r0_3, .ref r0_4, .ref r0_5, .ref r0_6, .ref r0_7, .ref r0_8, .ref r0_9, .ref r0_10, .ref r0_11, .ref r0_12, .ref r0_13, .ref r0_14, .int v0_15])), (r0_0, .inl (k1, 1200, .inl (u_6.2.1 0)))]) hD hS hA [0, 1] rfl
    refine va_callv (va_runV (As := [.int p3]) (rest := []) ⟨hx, hb, hml, hown, hts⟩ (zs_X11_putBytes l dC dI h0 p3 r0_0 (u_6.1 0) r0_2 r0_3 r0_4 r0_5 r0_6 r0_7 r0_8 r0_9 r0_10 r0_11 r0_12 r0_13 r0_14 v0_15 k1 (u_6.2.1 0) (by omega) H.size) (cwV 1 hts gX11_feed_X11_putBytes rfl rfl rfl (by decide +kernel) ⟨Nat.le_of_ble_eq_true rfl, Nat.le_of_ble_eq_true rfl⟩) ⟨fun a U g mk q => by obtain ⟨q0, q1, qP, qK, qD⟩ := q; exact ⟨q0, q1, qP, va_K.moved (u := U) (U := U.calling g mk a) (Vm.Alike.refl U.vm) qK, qD⟩, va_recv hKc hPc (ci := 11) (q0 := 0) rfl rfl, fun U hU hW => ⟨rfl, by rw [hU], by rw [hU]; exact hPc, va_K.moved hW.alike hKc, hDc.weaken (fun _ _ _ _ => trivial)⟩⟩ rfl rfl hl.1 rfl (lv_room (Nat.le_of_ble_eq_true rfl)) dX11_feed_28 ⟨Nat.le_of_ble_eq_true rfl, Nat.le_of_ble_eq_true rfl⟩) hS (fun q _ h => hFc q h) hFc (fun u_9 t H1 locs ht hvm hw_10 hB hz1 hk1 hS => ?_)
    obtain ⟨hP1, hK1, hD1⟩ := hB
    rw [ht] at hP1
    have hK1 := va_K.moved hvm.symm hK1
    obtain ⟨hP, hD⟩ := va_join (wr := [(r0_2, .inl (k2, 5, .inl f2))]) (w1 := [(h0, .inr (11, [.ref r0_0, .int (u_9.1 0), .ref r0_2, .ref r0_3, .ref r0_4, .ref r0_5, .ref r0_6, .ref r0_7, .ref r0_8, .ref r0_9, .ref r0_10, .ref r0_11, .ref r0_12, .ref r0_13, .ref r0_14, .int v0_15])), (r0_0, .inl (k1, 1200, .inl (u_9.2.1 0)))]) hP hD [0, 1] [2] rfl rfl (by decide) (by decide) hk1 hFc hP1 hD1
    have hK := hK
    generalize H1 = H at hP hS ⊢
    have hP := hP.sub (ws' := [(h0, .inr (11, [.ref r0_0, .int (u_9.1 0), .ref r0_2, .ref r0_3, .ref r0_4, .ref r0_5, .ref r0_6, .ref r0_7, .ref r0_8, .ref r0_9, .ref r0_10, .ref r0_11, .ref r0_12, .ref r0_13, .ref r0_14, .int v0_15])), (r0_0, .inl (k1, 1200, .inl (u_9.2.1 0))), (r0_2, .inl (k2, 5, .inl f2))]) [1, 2, 0] rfl
    have hD := hD.sub (ws' := [(h0, .inr (11, [.ref r0_0, .int (u_9.1 0), .ref r0_2, .ref r0_3, .ref r0_4, .ref r0_5, .ref r0_6, .ref r0_7, .ref r0_8, .ref r0_9, .ref r0_10, .ref r0_11, .ref r0_12, .ref r0_13, .ref r0_14, .int v0_15])), (r0_0, .inl (k1, 1200, .inl (u_9.2.1 0))), (r0_2, .inl (k2, 5, .inl f2))]) [1, 2, 0] (by decide) rfl
    have hP : va_P (dC, dI) vwCl [(h0, .inr (11, [.ref r0_0, .int (u_9.1 0), .ref r0_2, .ref r0_3, .ref r0_4, .ref r0_5, .ref r0_6, .ref r0_7, .ref r0_8, .ref r0_9, .ref r0_10, .ref r0_11, .ref r0_12, .ref r0_13, .ref r0_14, .int v0_15])), (r0_0, .inl (k1, 1200, .inl (u_9.2.1 0))), (r0_2, .inl (k2, 5, .inl f2))] H := hP
    have hD : va_D A [(h0, .inr (11, [.ref r0_0, .int (u_9.1 0), .ref r0_2, .ref r0_3, .ref r0_4, .ref r0_5, .ref r0_6, .ref r0_7, .ref r0_8, .ref r0_9, .ref r0_10, .ref r0_11, .ref r0_12, .ref r0_13, .ref r0_14, .int v0_15])), (r0_0, .inl (k1, 1200, .inl (u_9.2.1 0))), (r0_2, .inl (k2, 5, .inl f2))] := hD
    obtain ⟨hmr_8_0, -⟩ := hw_10
    refine lv_aload_n hx hb dX11_feed_31 rfl (lv_at hl 0 rfl) ?_
    refine lv_iload hx hb dX11_feed_32 (lv_at hl 4 rfl) ?_
    have hPc := hP.sub (ws' := [(h0, .inr (11, [.ref r0_0, .int (u_9.1 0), .ref r0_2, .ref r0_3, .ref r0_4, .ref r0_5, .ref r0_6, .ref r0_7, .ref r0_8, .ref r0_9, .ref r0_10, .ref r0_11, .ref r0_12, .ref r0_13, .ref r0_14, .int v0_15])), (r0_0, .inl (k1, 1200, .inl (u_9.2.1 0)))]) [0, 1] rfl
    have hDc := hD.sub (ws' := [(h0, .inr (11, [.ref r0_0, .int (u_9.1 0), .ref r0_2, .ref r0_3, .ref r0_4, .ref r0_5, .ref r0_6, .ref r0_7, .ref r0_8, .ref r0_9, .ref r0_10, .ref r0_11, .ref r0_12, .ref r0_13, .ref r0_14, .int v0_15])), (r0_0, .inl (k1, 1200, .inl (u_9.2.1 0)))]) [0, 1] (by decide) rfl
    have hKc := hK.sub (tys' := [(k1, .byte)]) [0] rfl
    have hFc := va_free (wc := [(h0, .inr (11, [.ref r0_0, .int (u_9.1 0), .ref r0_2, .ref r0_3, .ref r0_4, .ref r0_5, .ref r0_6, .ref r0_7, .ref r0_8, .ref r0_9, .ref r0_10, .ref r0_11, .ref r0_12, .ref r0_13, .ref r0_14, .int v0_15])), (r0_0, .inl (k1, 1200, .inl (u_9.2.1 0)))]) hD hS hA [0, 1] rfl
    refine va_callv (va_runV (As := [.int p4]) (rest := []) ⟨hx, hb, hml, hown, hts⟩ (zs_X11_putBytes l dC dI h0 p4 r0_0 (u_9.1 0) r0_2 r0_3 r0_4 r0_5 r0_6 r0_7 r0_8 r0_9 r0_10 r0_11 r0_12 r0_13 r0_14 v0_15 k1 (u_9.2.1 0) (by omega) H.size) (cwV 1 hts gX11_feed_X11_putBytes rfl rfl rfl (by decide +kernel) ⟨Nat.le_of_ble_eq_true rfl, Nat.le_of_ble_eq_true rfl⟩) ⟨fun a U g mk q => by obtain ⟨q0, q1, qP, qK, qD⟩ := q; exact ⟨q0, q1, qP, va_K.moved (u := U) (U := U.calling g mk a) (Vm.Alike.refl U.vm) qK, qD⟩, va_recv hKc hPc (ci := 11) (q0 := 0) rfl rfl, fun U hU hW => ⟨rfl, by rw [hU], by rw [hU]; exact hPc, va_K.moved hW.alike hKc, hDc.weaken (fun _ _ _ _ => trivial)⟩⟩ rfl rfl hl.1 rfl (lv_room (Nat.le_of_ble_eq_true rfl)) dX11_feed_34 ⟨Nat.le_of_ble_eq_true rfl, Nat.le_of_ble_eq_true rfl⟩) hS (fun q _ h => hFc q h) hFc (fun u_12 t H1 locs ht hvm hw_13 hB hz1 hk1 hS => ?_)
    obtain ⟨hP1, hK1, hD1⟩ := hB
    rw [ht] at hP1
    have hK1 := va_K.moved hvm.symm hK1
    obtain ⟨hP, hD⟩ := va_join (wr := [(r0_2, .inl (k2, 5, .inl f2))]) (w1 := [(h0, .inr (11, [.ref r0_0, .int (u_12.1 0), .ref r0_2, .ref r0_3, .ref r0_4, .ref r0_5, .ref r0_6, .ref r0_7, .ref r0_8, .ref r0_9, .ref r0_10, .ref r0_11, .ref r0_12, .ref r0_13, .ref r0_14, .int v0_15])), (r0_0, .inl (k1, 1200, .inl (u_12.2.1 0)))]) hP hD [0, 1] [2] rfl rfl (by decide) (by decide) hk1 hFc hP1 hD1
    have hK := hK
    generalize H1 = H at hP hS ⊢
    have hP := hP.sub (ws' := [(h0, .inr (11, [.ref r0_0, .int (u_12.1 0), .ref r0_2, .ref r0_3, .ref r0_4, .ref r0_5, .ref r0_6, .ref r0_7, .ref r0_8, .ref r0_9, .ref r0_10, .ref r0_11, .ref r0_12, .ref r0_13, .ref r0_14, .int v0_15])), (r0_0, .inl (k1, 1200, .inl (u_12.2.1 0))), (r0_2, .inl (k2, 5, .inl f2))]) [1, 2, 0] rfl
    have hD := hD.sub (ws' := [(h0, .inr (11, [.ref r0_0, .int (u_12.1 0), .ref r0_2, .ref r0_3, .ref r0_4, .ref r0_5, .ref r0_6, .ref r0_7, .ref r0_8, .ref r0_9, .ref r0_10, .ref r0_11, .ref r0_12, .ref r0_13, .ref r0_14, .int v0_15])), (r0_0, .inl (k1, 1200, .inl (u_12.2.1 0))), (r0_2, .inl (k2, 5, .inl f2))]) [1, 2, 0] (by decide) rfl
    have hP : va_P (dC, dI) vwCl [(h0, .inr (11, [.ref r0_0, .int (u_12.1 0), .ref r0_2, .ref r0_3, .ref r0_4, .ref r0_5, .ref r0_6, .ref r0_7, .ref r0_8, .ref r0_9, .ref r0_10, .ref r0_11, .ref r0_12, .ref r0_13, .ref r0_14, .int v0_15])), (r0_0, .inl (k1, 1200, .inl (u_12.2.1 0))), (r0_2, .inl (k2, 5, .inl f2))] H := hP
    have hD : va_D A [(h0, .inr (11, [.ref r0_0, .int (u_12.1 0), .ref r0_2, .ref r0_3, .ref r0_4, .ref r0_5, .ref r0_6, .ref r0_7, .ref r0_8, .ref r0_9, .ref r0_10, .ref r0_11, .ref r0_12, .ref r0_13, .ref r0_14, .int v0_15])), (r0_0, .inl (k1, 1200, .inl (u_12.2.1 0))), (r0_2, .inl (k2, 5, .inl f2))] := hD
    obtain ⟨hmr_11_0, -⟩ := hw_13
    refine lv_aload_n hx hb dX11_feed_37 rfl (lv_at hl 0 rfl) ?_
    refine lv_iload hx hb dX11_feed_38 (lv_at hl 5 rfl) ?_
    have hPc := hP.sub (ws' := [(h0, .inr (11, [.ref r0_0, .int (u_12.1 0), .ref r0_2, .ref r0_3, .ref r0_4, .ref r0_5, .ref r0_6, .ref r0_7, .ref r0_8, .ref r0_9, .ref r0_10, .ref r0_11, .ref r0_12, .ref r0_13, .ref r0_14, .int v0_15])), (r0_0, .inl (k1, 1200, .inl (u_12.2.1 0)))]) [0, 1] rfl
    have hDc := hD.sub (ws' := [(h0, .inr (11, [.ref r0_0, .int (u_12.1 0), .ref r0_2, .ref r0_3, .ref r0_4, .ref r0_5, .ref r0_6, .ref r0_7, .ref r0_8, .ref r0_9, .ref r0_10, .ref r0_11, .ref r0_12, .ref r0_13, .ref r0_14, .int v0_15])), (r0_0, .inl (k1, 1200, .inl (u_12.2.1 0)))]) [0, 1] (by decide) rfl
    have hKc := hK.sub (tys' := [(k1, .byte)]) [0] rfl
    have hFc := va_free (wc := [(h0, .inr (11, [.ref r0_0, .int (u_12.1 0), .ref r0_2, .ref r0_3, .ref r0_4, .ref r0_5, .ref r0_6, .ref r0_7, .ref r0_8, .ref r0_9, .ref r0_10, .ref r0_11, .ref r0_12, .ref r0_13, .ref r0_14, .int v0_15])), (r0_0, .inl (k1, 1200, .inl (u_12.2.1 0)))]) hD hS hA [0, 1] rfl
    refine va_callv (va_runV (As := [.int p5]) (rest := []) ⟨hx, hb, hml, hown, hts⟩ (zs_X11_putBytes l dC dI h0 p5 r0_0 (u_12.1 0) r0_2 r0_3 r0_4 r0_5 r0_6 r0_7 r0_8 r0_9 r0_10 r0_11 r0_12 r0_13 r0_14 v0_15 k1 (u_12.2.1 0) (by omega) H.size) (cwV 1 hts gX11_feed_X11_putBytes rfl rfl rfl (by decide +kernel) ⟨Nat.le_of_ble_eq_true rfl, Nat.le_of_ble_eq_true rfl⟩) ⟨fun a U g mk q => by obtain ⟨q0, q1, qP, qK, qD⟩ := q; exact ⟨q0, q1, qP, va_K.moved (u := U) (U := U.calling g mk a) (Vm.Alike.refl U.vm) qK, qD⟩, va_recv hKc hPc (ci := 11) (q0 := 0) rfl rfl, fun U hU hW => ⟨rfl, by rw [hU], by rw [hU]; exact hPc, va_K.moved hW.alike hKc, hDc.weaken (fun _ _ _ _ => trivial)⟩⟩ rfl rfl hl.1 rfl (lv_room (Nat.le_of_ble_eq_true rfl)) dX11_feed_40 ⟨Nat.le_of_ble_eq_true rfl, Nat.le_of_ble_eq_true rfl⟩) hS (fun q _ h => hFc q h) hFc (fun u_15 t H1 locs ht hvm hw_16 hB hz1 hk1 hS => ?_)
    obtain ⟨hP1, hK1, hD1⟩ := hB
    rw [ht] at hP1
    have hK1 := va_K.moved hvm.symm hK1
    obtain ⟨hP, hD⟩ := va_join (wr := [(r0_2, .inl (k2, 5, .inl f2))]) (w1 := [(h0, .inr (11, [.ref r0_0, .int (u_15.1 0), .ref r0_2, .ref r0_3, .ref r0_4, .ref r0_5, .ref r0_6, .ref r0_7, .ref r0_8, .ref r0_9, .ref r0_10, .ref r0_11, .ref r0_12, .ref r0_13, .ref r0_14, .int v0_15])), (r0_0, .inl (k1, 1200, .inl (u_15.2.1 0)))]) hP hD [0, 1] [2] rfl rfl (by decide) (by decide) hk1 hFc hP1 hD1
    have hK := hK
    generalize H1 = H at hP hS ⊢
    have hP := hP.sub (ws' := [(h0, .inr (11, [.ref r0_0, .int (u_15.1 0), .ref r0_2, .ref r0_3, .ref r0_4, .ref r0_5, .ref r0_6, .ref r0_7, .ref r0_8, .ref r0_9, .ref r0_10, .ref r0_11, .ref r0_12, .ref r0_13, .ref r0_14, .int v0_15])), (r0_0, .inl (k1, 1200, .inl (u_15.2.1 0))), (r0_2, .inl (k2, 5, .inl f2))]) [1, 2, 0] rfl
    have hD := hD.sub (ws' := [(h0, .inr (11, [.ref r0_0, .int (u_15.1 0), .ref r0_2, .ref r0_3, .ref r0_4, .ref r0_5, .ref r0_6, .ref r0_7, .ref r0_8, .ref r0_9, .ref r0_10, .ref r0_11, .ref r0_12, .ref r0_13, .ref r0_14, .int v0_15])), (r0_0, .inl (k1, 1200, .inl (u_15.2.1 0))), (r0_2, .inl (k2, 5, .inl f2))]) [1, 2, 0] (by decide) rfl
    have hP : va_P (dC, dI) vwCl [(h0, .inr (11, [.ref r0_0, .int (u_15.1 0), .ref r0_2, .ref r0_3, .ref r0_4, .ref r0_5, .ref r0_6, .ref r0_7, .ref r0_8, .ref r0_9, .ref r0_10, .ref r0_11, .ref r0_12, .ref r0_13, .ref r0_14, .int v0_15])), (r0_0, .inl (k1, 1200, .inl (u_15.2.1 0))), (r0_2, .inl (k2, 5, .inl f2))] H := hP
    have hD : va_D A [(h0, .inr (11, [.ref r0_0, .int (u_15.1 0), .ref r0_2, .ref r0_3, .ref r0_4, .ref r0_5, .ref r0_6, .ref r0_7, .ref r0_8, .ref r0_9, .ref r0_10, .ref r0_11, .ref r0_12, .ref r0_13, .ref r0_14, .int v0_15])), (r0_0, .inl (k1, 1200, .inl (u_15.2.1 0))), (r0_2, .inl (k2, 5, .inl f2))] := hD
    obtain ⟨hmr_14_0, -⟩ := hw_16
    refine lv_aload_n hx hb dX11_feed_43 rfl (lv_at hl 0 rfl) ?_
    refine va_get (D := (dC, dI)) (ci := 11) (v := .int (u_15.1 0)) (C := RX11) (T := TX11) (N := 16) hx hb hts zn_X11_feed_X11 hown hK hP 0 rfl rfl 1 (by decide) (hts (.fieldLink RX11 89 "ShortEnough" "tapeLength" "I") zw_X11_feed_373) (fun _ h9 => h9) rfl dX11_feed_44 ?_
    have hP9 := hP.sub (ws' := [(h0, .inr (11, [.ref r0_0, .int (u_15.1 0), .ref r0_2, .ref r0_3, .ref r0_4, .ref r0_5, .ref r0_6, .ref r0_7, .ref r0_8, .ref r0_9, .ref r0_10, .ref r0_11, .ref r0_12, .ref r0_13, .ref r0_14, .int v0_15])), (r0_0, .inl (k1, 1200, .inl (u_15.2.1 0))), (r0_2, .inl (k2, 5, .inl f2))]) [0, 1, 2] rfl
    have hD9 := hD.sub (ws' := [(h0, .inr (11, [.ref r0_0, .int (u_15.1 0), .ref r0_2, .ref r0_3, .ref r0_4, .ref r0_5, .ref r0_6, .ref r0_7, .ref r0_8, .ref r0_9, .ref r0_10, .ref r0_11, .ref r0_12, .ref r0_13, .ref r0_14, .int v0_15])), (r0_0, .inl (k1, 1200, .inl (u_15.2.1 0))), (r0_2, .inl (k2, 5, .inl f2))]) [0, 1, 2] (by decide) rfl
    have hK9 := hK.sub (tys' := [(k1, .byte), (k2, .int)]) [0, 1] rfl
    rw [← hQ]
    exact W.iret (v := (u_15.1 0)) hx hb hr (fun t ht hW => ⟨⟨(u_15.1 0), ((fun k => ([(u_15.1 0)] : List Int32).getD k 0), (fun k => ([(u_15.2.1 0), f2] : List (Nat → Int32)).getD k (fun _ => 0)), (fun k => ([] : List (Nat → Int64)).getD k (fun _ => 0))), rfl, ⟨(show (-1 : Int) ≤ ((u_15.1 0) : Int32).toInt ∧ ((u_15.1 0) : Int32).toInt ≤ 1200 by omega), (show (0 : Int) ≤ ((u_15.1 0) : Int32).toInt ∧ ((u_15.1 0) : Int32).toInt ≤ 1200 by omega), trivial⟩, by rw [ht]; exact hP9, va_K.moved hW.alike hK9, hD9⟩, hS.F ht⟩) hS.2.2 dX11_feed_47
  have oc_1 := zk_nle rfl (by decide +kernel : (1180 : Int32).toInt = 1180) c_1
  refine lv_aload_n hx hb dX11_feed_10 rfl (lv_at hl 0 rfl) ?_
  refine lv_iconst (v := 0) hx hb dX11_feed_11 (by decide +kernel) ?_
  have hPc := hP.sub (ws' := [(h0, .inr (11, [.ref r0_0, .int v0_1, .ref r0_2, .ref r0_3, .ref r0_4, .ref r0_5, .ref r0_6, .ref r0_7, .ref r0_8, .ref r0_9, .ref r0_10, .ref r0_11, .ref r0_12, .ref r0_13, .ref r0_14, .int v0_15])), (r0_2, .inl (k2, 5, .inl f2))]) [0, 2] rfl
  have hDc := hD.sub (ws' := [(h0, .inr (11, [.ref r0_0, .int v0_1, .ref r0_2, .ref r0_3, .ref r0_4, .ref r0_5, .ref r0_6, .ref r0_7, .ref r0_8, .ref r0_9, .ref r0_10, .ref r0_11, .ref r0_12, .ref r0_13, .ref r0_14, .int v0_15])), (r0_2, .inl (k2, 5, .inl f2))]) [0, 2] (by decide) rfl
  have hKc := hK.sub (tys' := [(k2, .int)]) [1] rfl
  have hFc := va_free (wc := [(h0, .inr (11, [.ref r0_0, .int v0_1, .ref r0_2, .ref r0_3, .ref r0_4, .ref r0_5, .ref r0_6, .ref r0_7, .ref r0_8, .ref r0_9, .ref r0_10, .ref r0_11, .ref r0_12, .ref r0_13, .ref r0_14, .int v0_15])), (r0_2, .inl (k2, 5, .inl f2))]) hD hS hA [0, 2] rfl
  refine va_calli (va_runV (As := [.int 0]) (rest := []) ⟨hx, hb, hml, hown, hts⟩ (zs_X11_refuse l dC dI h0 0 r0_0 v0_1 r0_2 r0_3 r0_4 r0_5 r0_6 r0_7 r0_8 r0_9 r0_10 r0_11 r0_12 r0_13 r0_14 v0_15 k2 f2 (by omega) s.heap.size) (cwV 1 hts gX11_feed_X11_refuse rfl rfl rfl (by decide +kernel) ⟨Nat.le_of_ble_eq_true rfl, Nat.le_of_ble_eq_true rfl⟩) ⟨fun a U g mk q => by obtain ⟨q0, q1, qP, qK, qD⟩ := q; exact ⟨q0, q1, qP, va_K.moved (u := U) (U := U.calling g mk a) (Vm.Alike.refl U.vm) qK, qD⟩, va_recv hKc hPc (ci := 11) (q0 := 0) rfl rfl, fun U hU hW => ⟨rfl, by rw [hU], by rw [hU]; exact hPc, va_K.moved hW.alike hKc, hDc.weaken (fun _ _ _ _ => trivial)⟩⟩ rfl rfl hl.1 rfl (lv_room (Nat.le_of_ble_eq_true rfl)) dX11_feed_12 ⟨Nat.le_of_ble_eq_true rfl, Nat.le_of_ble_eq_true rfl⟩) hS (fun q _ h => hFc q h) hFc (fun r_17 u_18 t H1 locs ht hvm hw_19 hB hz1 hk1 hS => ?_)
  obtain ⟨hP1, hK1, hD1⟩ := hB
  rw [ht] at hP1
  have hK1 := va_K.moved hvm.symm hK1
  obtain ⟨hP, hD⟩ := va_join (wr := [(r0_0, .inl (k1, 1200, .inl f1))]) (w1 := [(h0, .inr (11, [.ref r0_0, .int v0_1, .ref r0_2, .ref r0_3, .ref r0_4, .ref r0_5, .ref r0_6, .ref r0_7, .ref r0_8, .ref r0_9, .ref r0_10, .ref r0_11, .ref r0_12, .ref r0_13, .ref r0_14, .int v0_15])), (r0_2, .inl (k2, 5, .inl (u_18.2.1 0)))]) hP hD [0, 2] [1] rfl rfl (by decide) (by decide) hk1 hFc hP1 hD1
  have hK := hK
  generalize H1 = H at hP hS ⊢
  have hP := hP.sub (ws' := [(h0, .inr (11, [.ref r0_0, .int v0_1, .ref r0_2, .ref r0_3, .ref r0_4, .ref r0_5, .ref r0_6, .ref r0_7, .ref r0_8, .ref r0_9, .ref r0_10, .ref r0_11, .ref r0_12, .ref r0_13, .ref r0_14, .int v0_15])), (r0_0, .inl (k1, 1200, .inl f1)), (r0_2, .inl (k2, 5, .inl (u_18.2.1 0)))]) [1, 0, 2] rfl
  have hD := hD.sub (ws' := [(h0, .inr (11, [.ref r0_0, .int v0_1, .ref r0_2, .ref r0_3, .ref r0_4, .ref r0_5, .ref r0_6, .ref r0_7, .ref r0_8, .ref r0_9, .ref r0_10, .ref r0_11, .ref r0_12, .ref r0_13, .ref r0_14, .int v0_15])), (r0_0, .inl (k1, 1200, .inl f1)), (r0_2, .inl (k2, 5, .inl (u_18.2.1 0)))]) [1, 0, 2] (by decide) rfl
  have hP : va_P (dC, dI) vwCl [(h0, .inr (11, [.ref r0_0, .int v0_1, .ref r0_2, .ref r0_3, .ref r0_4, .ref r0_5, .ref r0_6, .ref r0_7, .ref r0_8, .ref r0_9, .ref r0_10, .ref r0_11, .ref r0_12, .ref r0_13, .ref r0_14, .int v0_15])), (r0_0, .inl (k1, 1200, .inl f1)), (r0_2, .inl (k2, 5, .inl (u_18.2.1 0)))] H := hP
  have hD : va_D A [(h0, .inr (11, [.ref r0_0, .int v0_1, .ref r0_2, .ref r0_3, .ref r0_4, .ref r0_5, .ref r0_6, .ref r0_7, .ref r0_8, .ref r0_9, .ref r0_10, .ref r0_11, .ref r0_12, .ref r0_13, .ref r0_14, .int v0_15])), (r0_0, .inl (k1, 1200, .inl f1)), (r0_2, .inl (k2, 5, .inl (u_18.2.1 0)))] := hD
  obtain ⟨hr_17, -⟩ := hw_19
  have hP9 := hP.sub (ws' := [(h0, .inr (11, [.ref r0_0, .int v0_1, .ref r0_2, .ref r0_3, .ref r0_4, .ref r0_5, .ref r0_6, .ref r0_7, .ref r0_8, .ref r0_9, .ref r0_10, .ref r0_11, .ref r0_12, .ref r0_13, .ref r0_14, .int v0_15])), (r0_0, .inl (k1, 1200, .inl f1)), (r0_2, .inl (k2, 5, .inl (u_18.2.1 0)))]) [0, 1, 2] rfl
  have hD9 := hD.sub (ws' := [(h0, .inr (11, [.ref r0_0, .int v0_1, .ref r0_2, .ref r0_3, .ref r0_4, .ref r0_5, .ref r0_6, .ref r0_7, .ref r0_8, .ref r0_9, .ref r0_10, .ref r0_11, .ref r0_12, .ref r0_13, .ref r0_14, .int v0_15])), (r0_0, .inl (k1, 1200, .inl f1)), (r0_2, .inl (k2, 5, .inl (u_18.2.1 0)))]) [0, 1, 2] (by decide) rfl
  have hK9 := hK.sub (tys' := [(k1, .byte), (k2, .int)]) [0, 1] rfl
  rw [← hQ]
  exact W.iret (v := r_17) hx hb hr (fun t ht hW => ⟨⟨r_17, ((fun k => ([v0_1] : List Int32).getD k 0), (fun k => ([f1, (u_18.2.1 0)] : List (Nat → Int32)).getD k (fun _ => 0)), (fun k => ([] : List (Nat → Int64)).getD k (fun _ => 0))), rfl, ⟨(show (-1 : Int) ≤ (r_17 : Int32).toInt ∧ (r_17 : Int32).toInt ≤ 1200 by omega), (show (0 : Int) ≤ (v0_1 : Int32).toInt ∧ (v0_1 : Int32).toInt ≤ 1200 by omega), trivial⟩, by rw [ht]; exact hP9, va_K.moved hW.alike hK9, hD9⟩, hS.F ht⟩) hS.2.2 dX11_feed_15
