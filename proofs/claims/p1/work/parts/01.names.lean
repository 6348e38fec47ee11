theorem goodIn_r {big : List Cond} (ws : List Cond) (ps : List Nat) (hp : ws = ps.filterMap (fun i => big[i]?)) (h : ws.all goodWord = true) : GoodIn big ws := by
  intro w hw
  have h1 := List.all_eq_true.mp h w hw
  rw [hp] at hw
  obtain ⟨i, -, hi⟩ := List.mem_filterMap.mp hw
  have hm : w ∈ big := by first | exact List.mem_of_getElem? hi | exact List.getElem?_mem hi
  exact ⟨hm, good_of_word h1⟩
theorem goodIn_app {big a b : List Cond} (ha : GoodIn big a) (hb : GoodIn big b) : GoodIn big (a ++ b) := fun w h => (List.mem_append.mp h).elim (ha w) (hb w)
def RX0 : String := "ShortEnough$CertificateReader"
def TX0 : u_T := fun k => match k with
  | 0 => ("ShortEnough$CertificateReader", "said", "LShortEnough$Ranges;", true)
  | 1 => ("ShortEnough$CertificateReader", "saidErrors", "LShortEnough$Reckoning;", true)
  | 2 => ("ShortEnough$CertificateReader", "choice", "[I", true)
  | 3 => ("ShortEnough$CertificateReader", "breaksAt", "I", false)
  | _ => ("ShortEnough$CertificateReader", "reason", "I", false)
def tyX0 : Nat → FieldType := fun k => match k with
  | 0 => .object "ShortEnough$Ranges"
  | 1 => .object "ShortEnough$Reckoning"
  | 2 => .array .int
  | 3 => .int
  | _ => .int
abbrev wsX00 : List Cond := u_ws RX0 TX0 5
theorem nmX0 : ∀ a, a < 5 → ∀ b, b < 5 → a ≠ b → (TX0 a).2.1 ≠ (TX0 b).2.1 := by decide +kernel
theorem tyX0_ok : ∀ k, k < 5 → parseFieldDescriptor (TX0 k).2.2.1 = some (tyX0 k) := by decide +kernel
abbrev cX0_init : ByteArray := prog_2_method_1_code
def yX0_init : MethodName := ⟨RX0, "<init>", "()V"⟩
def RX1 : String := "ShortEnough$FullSearch"
def TX1 : u_T := fun k => match k with
  | 0 => ("ShortEnough$FullSearch", "reckoning", "LShortEnough$Reckoning;", true)
  | 1 => ("ShortEnough$FullSearch", "choice", "[I", true)
  | 2 => ("ShortEnough$FullSearch", "ready", "Z", false)
  | 3 => ("ShortEnough$FullSearch", "answers", "I", false)
  | 4 => ("ShortEnough$FullSearch", "prices", "[I", false)
  | 5 => ("ShortEnough$FullSearch", "errors", "[I", false)
  | 6 => ("ShortEnough$FullSearch", "many", "I", false)
  | 7 => ("ShortEnough$FullSearch", "best", "I", false)
  | 8 => ("ShortEnough$FullSearch", "bestPrice", "I", false)
  | 9 => ("ShortEnough$FullSearch", "frontOf", "I", false)
  | 10 => ("ShortEnough$FullSearch", "frontSize", "I", false)
  | 11 => ("ShortEnough$FullSearch", "frontPrice", "[I", false)
  | 12 => ("ShortEnough$FullSearch", "frontError", "[I", false)
  | _ => ("ShortEnough$FullSearch", "frontMany", "[I", false)
def tyX1 : Nat → FieldType := fun k => match k with
  | 0 => .object "ShortEnough$Reckoning"
  | 1 => .array .int
  | 2 => .boolean
  | 3 => .int
  | 4 => .array .int
  | 5 => .array .int
  | 6 => .int
  | 7 => .int
  | 8 => .int
  | 9 => .int
  | 10 => .int
  | 11 => .array .int
  | 12 => .array .int
  | _ => .array .int
abbrev wsX10 : List Cond := u_ws RX1 TX1 14
theorem nmX1 : ∀ a, a < 14 → ∀ b, b < 14 → a ≠ b → (TX1 a).2.1 ≠ (TX1 b).2.1 := by decide +kernel
theorem tyX1_ok : ∀ k, k < 14 → parseFieldDescriptor (TX1 k).2.2.1 = some (tyX1 k) := by decide +kernel
abbrev cX1_init : ByteArray := prog_3_method_1_code
def yX1_init : MethodName := ⟨RX1, "<init>", "()V"⟩
def RX2 : String := "ShortEnough$Groups"
def TX2 : u_T := fun k => match k with
  | 0 => ("ShortEnough$Groups", "count", "I", false)
  | 1 => ("ShortEnough$Groups", "free", "I", false)
  | 2 => ("ShortEnough$Groups", "clash", "Z", false)
  | 3 => ("ShortEnough$Groups", "of", "[I", true)
  | 4 => ("ShortEnough$Groups", "fixedAs", "[I", true)
  | _ => ("ShortEnough$Groups", "leader", "[I", true)
def tyX2 : Nat → FieldType := fun k => match k with
  | 0 => .int
  | 1 => .int
  | 2 => .boolean
  | 3 => .array .int
  | 4 => .array .int
  | _ => .array .int
abbrev wsX20 : List Cond := u_ws RX2 TX2 6
theorem nmX2 : ∀ a, a < 6 → ∀ b, b < 6 → a ≠ b → (TX2 a).2.1 ≠ (TX2 b).2.1 := by decide +kernel
theorem tyX2_ok : ∀ k, k < 6 → parseFieldDescriptor (TX2 k).2.2.1 = some (tyX2 k) := by decide +kernel
abbrev cX2_init : ByteArray := prog_4_method_1_code
def yX2_init : MethodName := ⟨RX2, "<init>", "()V"⟩
def RX3 : String := "ShortEnough$LocalSearch"
def TX3 : u_T := fun k => match k with
  | 0 => ("ShortEnough$LocalSearch", "reckoning", "LShortEnough$Reckoning;", true)
  | 1 => ("ShortEnough$LocalSearch", "near", "[I", true)
  | 2 => ("ShortEnough$LocalSearch", "ready", "Z", false)
  | 3 => ("ShortEnough$LocalSearch", "started", "Z", false)
  | 4 => ("ShortEnough$LocalSearch", "changed", "[Z", true)
  | 5 => ("ShortEnough$LocalSearch", "unchanged", "[I", true)
  | 6 => ("ShortEnough$LocalSearch", "partFrom", "[I", true)
  | 7 => ("ShortEnough$LocalSearch", "partTo", "[I", true)
  | 8 => ("ShortEnough$LocalSearch", "parts", "I", false)
  | 9 => ("ShortEnough$LocalSearch", "row", "[I", true)
  | 10 => ("ShortEnough$LocalSearch", "price", "I", false)
  | 11 => ("ShortEnough$LocalSearch", "tries", "I", false)
  | 12 => ("ShortEnough$LocalSearch", "passed", "I", false)
  | 13 => ("ShortEnough$LocalSearch", "cheaper", "I", false)
  | 14 => ("ShortEnough$LocalSearch", "bestGroup", "I", false)
  | _ => ("ShortEnough$LocalSearch", "bestFormat", "I", false)
def tyX3 : Nat → FieldType := fun k => match k with
  | 0 => .object "ShortEnough$Reckoning"
  | 1 => .array .int
  | 2 => .boolean
  | 3 => .boolean
  | 4 => .array .boolean
  | 5 => .array .int
  | 6 => .array .int
  | 7 => .array .int
  | 8 => .int
  | 9 => .array .int
  | 10 => .int
  | 11 => .int
  | 12 => .int
  | 13 => .int
  | 14 => .int
  | _ => .int
abbrev wsX30 : List Cond := u_ws RX3 TX3 16
theorem nmX3 : ∀ a, a < 16 → ∀ b, b < 16 → a ≠ b → (TX3 a).2.1 ≠ (TX3 b).2.1 := by decide +kernel
theorem tyX3_ok : ∀ k, k < 16 → parseFieldDescriptor (TX3 k).2.2.1 = some (tyX3 k) := by decide +kernel
abbrev cX3_init : ByteArray := prog_5_method_1_code
def yX3_init : MethodName := ⟨RX3, "<init>", "()V"⟩
def RX4 : String := "ShortEnough$Numbers"
def TX4 : u_T := fun k => match k with
  | 0 => ("ShortEnough$Numbers", "count", "I", false)
  | 1 => ("ShortEnough$Numbers", "inputs", "I", false)
  | 2 => ("ShortEnough$Numbers", "name", "[I", true)
  | 3 => ("ShortEnough$Numbers", "op", "[I", true)
  | 4 => ("ShortEnough$Numbers", "fixedAs", "[I", true)
  | 5 => ("ShortEnough$Numbers", "allowed", "[I", true)
  | 6 => ("ShortEnough$Numbers", "lets", "[I", true)
  | 7 => ("ShortEnough$Numbers", "joined", "[I", true)
  | 8 => ("ShortEnough$Numbers", "made", "[I", true)
  | _ => ("ShortEnough$Numbers", "amount", "[I", true)
def tyX4 : Nat → FieldType := fun k => match k with
  | 0 => .int
  | 1 => .int
  | 2 => .array .int
  | 3 => .array .int
  | 4 => .array .int
  | 5 => .array .int
  | 6 => .array .int
  | 7 => .array .int
  | 8 => .array .int
  | _ => .array .int
abbrev wsX40 : List Cond := u_ws RX4 TX4 10
theorem nmX4 : ∀ a, a < 10 → ∀ b, b < 10 → a ≠ b → (TX4 a).2.1 ≠ (TX4 b).2.1 := by decide +kernel
theorem tyX4_ok : ∀ k, k < 10 → parseFieldDescriptor (TX4 k).2.2.1 = some (tyX4 k) := by decide +kernel
abbrev cX4_init : ByteArray := prog_6_method_1_code
def yX4_init : MethodName := ⟨RX4, "<init>", "()V"⟩
abbrev cX4_countAnswers : ByteArray := prog_6_method_11_code
def yX4_countAnswers : MethodName := ⟨RX4, "countAnswers", "(I)I"⟩
def RX5 : String := "ShortEnough$Parser"
def TX5 : u_T := fun k => match k with
  | 0 => ("ShortEnough$Parser", "words", "LShortEnough$Words;", true)
  | 1 => ("ShortEnough$Parser", "got", "I", false)
  | 2 => ("ShortEnough$Parser", "faultKind", "I", false)
  | _ => ("ShortEnough$Parser", "faultPlace", "I", false)
def tyX5 : Nat → FieldType := fun k => match k with
  | 0 => .object "ShortEnough$Words"
  | 1 => .int
  | 2 => .int
  | _ => .int
def RX6 : String := "ShortEnough$Ranges"
def TX6 : u_T := fun k => match k with
  | 0 => ("ShortEnough$Ranges", "low", "[J", true)
  | 1 => ("ShortEnough$Ranges", "high", "[J", true)
  | _ => ("ShortEnough$Ranges", "wide", "[Z", true)
def tyX6 : Nat → FieldType := fun k => match k with
  | 0 => .array .long
  | 1 => .array .long
  | _ => .array .boolean
abbrev wsX60 : List Cond := u_ws RX6 TX6 3
theorem nmX6 : ∀ a, a < 3 → ∀ b, b < 3 → a ≠ b → (TX6 a).2.1 ≠ (TX6 b).2.1 := by decide +kernel
theorem tyX6_ok : ∀ k, k < 3 → parseFieldDescriptor (TX6 k).2.2.1 = some (tyX6 k) := by decide +kernel
abbrev cX6_init : ByteArray := prog_8_method_1_code
def yX6_init : MethodName := ⟨RX6, "<init>", "()V"⟩
def RX7 : String := "ShortEnough$Reckoning"
def TX7 : u_T := fun k => match k with
  | 0 => ("ShortEnough$Reckoning", "errors", "[J", true)
  | 1 => ("ShortEnough$Reckoning", "failsAt", "I", false)
  | _ => ("ShortEnough$Reckoning", "reason", "I", false)
def tyX7 : Nat → FieldType := fun k => match k with
  | 0 => .array .long
  | 1 => .int
  | _ => .int
abbrev wsX70 : List Cond := u_ws RX7 TX7 3
theorem nmX7 : ∀ a, a < 3 → ∀ b, b < 3 → a ≠ b → (TX7 a).2.1 ≠ (TX7 b).2.1 := by decide +kernel
theorem tyX7_ok : ∀ k, k < 3 → parseFieldDescriptor (TX7 k).2.2.1 = some (tyX7 k) := by decide +kernel
abbrev cX7_init : ByteArray := prog_9_method_1_code
def yX7_init : MethodName := ⟨RX7, "<init>", "()V"⟩
def RX8 : String := "ShortEnough$Sampler"
def TX8 : u_T := fun k => match k with
  | 0 => ("ShortEnough$Sampler", "exact", "[J", true)
  | _ => ("ShortEnough$Sampler", "kept", "[J", true)
def tyX8 : Nat → FieldType := fun k => match k with
  | 0 => .array .long
  | _ => .array .long
abbrev wsX80 : List Cond := u_ws RX8 TX8 2
theorem nmX8 : ∀ a, a < 2 → ∀ b, b < 2 → a ≠ b → (TX8 a).2.1 ≠ (TX8 b).2.1 := by decide +kernel
theorem tyX8_ok : ∀ k, k < 2 → parseFieldDescriptor (TX8 k).2.2.1 = some (tyX8 k) := by decide +kernel
abbrev cX8_init : ByteArray := prog_10_method_1_code
def yX8_init : MethodName := ⟨RX8, "<init>", "()V"⟩
def RX9 : String := "ShortEnough$Task"
def TX9 : u_T := fun k => match k with
  | 0 => ("ShortEnough$Task", "formats", "I", false)
  | 1 => ("ShortEnough$Task", "formatName", "[I", true)
  | 2 => ("ShortEnough$Task", "step", "[I", true)
  | 3 => ("ShortEnough$Task", "most", "[I", true)
  | 4 => ("ShortEnough$Task", "price", "[I", true)
  | 5 => ("ShortEnough$Task", "castPrice", "I", false)
  | 6 => ("ShortEnough$Task", "numbers", "LShortEnough$Numbers;", true)
  | 7 => ("ShortEnough$Task", "groups", "LShortEnough$Groups;", true)
  | _ => ("ShortEnough$Task", "ranges", "LShortEnough$Ranges;", true)
def tyX9 : Nat → FieldType := fun k => match k with
  | 0 => .int
  | 1 => .array .int
  | 2 => .array .int
  | 3 => .array .int
  | 4 => .array .int
  | 5 => .int
  | 6 => .object "ShortEnough$Numbers"
  | 7 => .object "ShortEnough$Groups"
  | _ => .object "ShortEnough$Ranges"
abbrev wsX90 : List Cond := u_ws RX9 TX9 9
theorem nmX9 : ∀ a, a < 9 → ∀ b, b < 9 → a ≠ b → (TX9 a).2.1 ≠ (TX9 b).2.1 := by decide +kernel
theorem tyX9_ok : ∀ k, k < 9 → parseFieldDescriptor (TX9 k).2.2.1 = some (tyX9 k) := by decide +kernel
abbrev cX9_init : ByteArray := prog_11_method_1_code
def yX9_init : MethodName := ⟨RX9, "<init>", "()V"⟩
def RX10 : String := "ShortEnough$Words"
def TX10 : u_T := fun k => match k with
  | 0 => ("ShortEnough$Words", "ownNames", "[I", true)
  | 1 => ("ShortEnough$Words", "text", "[B", false)
  | 2 => ("ShortEnough$Words", "length", "I", false)
  | 3 => ("ShortEnough$Words", "place", "I", false)
  | 4 => ("ShortEnough$Words", "kind", "I", false)
  | 5 => ("ShortEnough$Words", "start", "I", false)
  | 6 => ("ShortEnough$Words", "value", "I", false)
  | _ => ("ShortEnough$Words", "own", "I", false)
def tyX10 : Nat → FieldType := fun k => match k with
  | 0 => .array .int
  | 1 => .array .byte
  | 2 => .int
  | 3 => .int
  | 4 => .int
  | 5 => .int
  | 6 => .int
  | _ => .int
def RX11 : String := "ShortEnough"
def TX11 : u_T := fun k => match k with
  | 0 => ("ShortEnough", "tape", "[B", true)
  | 1 => ("ShortEnough", "tapeLength", "I", false)
  | 2 => ("ShortEnough", "refused", "[I", true)
  | 3 => ("ShortEnough", "parser", "LShortEnough$Parser;", true)
  | 4 => ("ShortEnough", "current", "LShortEnough$Task;", false)
  | 5 => ("ShortEnough", "spare", "LShortEnough$Task;", false)
  | 6 => ("ShortEnough", "hand", "[I", true)
  | 7 => ("ShortEnough", "other", "[I", true)
  | 8 => ("ShortEnough", "reckoning", "LShortEnough$Reckoning;", true)
  | 9 => ("ShortEnough", "otherReckoning", "LShortEnough$Reckoning;", true)
  | 10 => ("ShortEnough", "longerRanges", "LShortEnough$Ranges;", true)
  | 11 => ("ShortEnough", "full", "LShortEnough$FullSearch;", true)
  | 12 => ("ShortEnough", "local", "LShortEnough$LocalSearch;", true)
  | 13 => ("ShortEnough", "reader", "LShortEnough$CertificateReader;", true)
  | 14 => ("ShortEnough", "sampler", "LShortEnough$Sampler;", true)
  | _ => ("ShortEnough", "seedNow", "I", false)
def tyX11 : Nat → FieldType := fun k => match k with
  | 0 => .array .byte
  | 1 => .int
  | 2 => .array .int
  | 3 => .object "ShortEnough$Parser"
  | 4 => .object "ShortEnough$Task"
  | 5 => .object "ShortEnough$Task"
  | 6 => .array .int
  | 7 => .array .int
  | 8 => .object "ShortEnough$Reckoning"
  | 9 => .object "ShortEnough$Reckoning"
  | 10 => .object "ShortEnough$Ranges"
  | 11 => .object "ShortEnough$FullSearch"
  | 12 => .object "ShortEnough$LocalSearch"
  | 13 => .object "ShortEnough$CertificateReader"
  | 14 => .object "ShortEnough$Sampler"
  | _ => .int
abbrev wsX110 : List Cond := u_ws RX11 TX11 16
theorem nmX11 : ∀ a, a < 16 → ∀ b, b < 16 → a ≠ b → (TX11 a).2.1 ≠ (TX11 b).2.1 := by decide +kernel
theorem tyX11_ok : ∀ k, k < 16 → parseFieldDescriptor (TX11 k).2.2.1 = some (tyX11 k) := by decide +kernel
abbrev cX11_feed : ByteArray := prog_1_method_2_code
def yX11_feed : MethodName := ⟨RX11, "feed", "(IIIII)I"⟩
abbrev cX11_end : ByteArray := prog_1_method_3_code
def yX11_end : MethodName := ⟨RX11, "end", "(I)Z"⟩
abbrev cX11_has : ByteArray := prog_1_method_6_code
def yX11_has : MethodName := ⟨RX11, "has", "(I)I"⟩
abbrev cX11_refuse : ByteArray := prog_1_method_38_code
def yX11_refuse : MethodName := ⟨RX11, "refuse", "(I)I"⟩
abbrev cX11_putBytes : ByteArray := prog_1_method_39_code
def yX11_putBytes : MethodName := ⟨RX11, "putBytes", "(I)V"⟩
def RX12 : String := "ShortEnoughModel"
def TX12 : u_T := fun k => match k with
  | 0 => ("ShortEnoughModel", "tape", "[I", true)
  | 1 => ("ShortEnoughModel", "taped", "I", false)
  | 2 => ("ShortEnoughModel", "refused", "[I", true)
  | 3 => ("ShortEnoughModel", "faultKind", "I", false)
  | 4 => ("ShortEnoughModel", "faultPlace", "I", false)
  | 5 => ("ShortEnoughModel", "size", "I", false)
  | 6 => ("ShortEnoughModel", "at", "I", false)
  | 7 => ("ShortEnoughModel", "begun", "I", false)
  | 8 => ("ShortEnoughModel", "wrong", "I", false)
  | 9 => ("ShortEnoughModel", "wrongAt", "I", false)
  | 10 => ("ShortEnoughModel", "ownLetters", "[I", true)
  | 11 => ("ShortEnoughModel", "in", "I", false)
  | 12 => ("ShortEnoughModel", "formats", "[I", true)
  | 13 => ("ShortEnoughModel", "formatName", "[I", true)
  | 14 => ("ShortEnoughModel", "step", "[I", true)
  | 15 => ("ShortEnoughModel", "most", "[I", true)
  | 16 => ("ShortEnoughModel", "formatCost", "[I", true)
  | 17 => ("ShortEnoughModel", "numbers", "[I", true)
  | 18 => ("ShortEnoughModel", "numberName", "[I", true)
  | 19 => ("ShortEnoughModel", "op", "[I", true)
  | 20 => ("ShortEnoughModel", "first", "[I", true)
  | 21 => ("ShortEnoughModel", "second", "[I", true)
  | 22 => ("ShortEnoughModel", "firstV", "[J", true)
  | 23 => ("ShortEnoughModel", "secondV", "[J", true)
  | 24 => ("ShortEnoughModel", "castCost", "[I", true)
  | 25 => ("ShortEnoughModel", "fixedAs", "[I", true)
  | 26 => ("ShortEnoughModel", "within", "[I", true)
  | 27 => ("ShortEnoughModel", "groupOf", "[I", true)
  | 28 => ("ShortEnoughModel", "whatV", "J", false)
  | 29 => ("ShortEnoughModel", "free", "[I", true)
  | 30 => ("ShortEnoughModel", "freeMany", "I", false)
  | 31 => ("ShortEnoughModel", "least", "[J", true)
  | 32 => ("ShortEnoughModel", "greatest", "[J", true)
  | 33 => ("ShortEnoughModel", "wideNumber", "I", false)
  | 34 => ("ShortEnoughModel", "wideBy", "J", false)
  | 35 => ("ShortEnoughModel", "isGreat", "[Z", true)
  | 36 => ("ShortEnoughModel", "deep", "[I", true)
  | 37 => ("ShortEnoughModel", "hand", "[I", true)
  | 38 => ("ShortEnoughModel", "hasHand", "Z", false)
  | 39 => ("ShortEnoughModel", "tried", "[I", true)
  | 40 => ("ShortEnoughModel", "error", "[J", true)
  | 41 => ("ShortEnoughModel", "failsAt", "I", false)
  | 42 => ("ShortEnoughModel", "failsWhy", "I", false)
  | 43 => ("ShortEnoughModel", "soFar", "[I", true)
  | 44 => ("ShortEnoughModel", "soFarCost", "I", false)
  | 45 => ("ShortEnoughModel", "tries", "I", false)
  | 46 => ("ShortEnoughModel", "hasChanged", "[Z", true)
  | 47 => ("ShortEnoughModel", "row", "[I", true)
  | 48 => ("ShortEnoughModel", "partFrom", "[I", true)
  | 49 => ("ShortEnoughModel", "partMany", "[I", true)
  | 50 => ("ShortEnoughModel", "singlePass", "I", false)
  | 51 => ("ShortEnoughModel", "singleLess", "I", false)
  | 52 => ("ShortEnoughModel", "singleGroup", "I", false)
  | 53 => ("ShortEnoughModel", "singleFormat", "I", false)
  | 54 => ("ShortEnoughModel", "frontCost", "[I", true)
  | 55 => ("ShortEnoughModel", "frontError", "[J", true)
  | 56 => ("ShortEnoughModel", "frontMany", "[I", true)
  | 57 => ("ShortEnoughModel", "fronts", "I", false)
  | 58 => ("ShortEnoughModel", "brokenAt", "I", false)
  | 59 => ("ShortEnoughModel", "brokenWhy", "I", false)
  | 60 => ("ShortEnoughModel", "saysFormat", "[I", true)
  | 61 => ("ShortEnoughModel", "saysLeast", "[J", true)
  | 62 => ("ShortEnoughModel", "saysGreatest", "[J", true)
  | 63 => ("ShortEnoughModel", "saysError", "[J", true)
  | 64 => ("ShortEnoughModel", "seedNow", "I", false)
  | 65 => ("ShortEnoughModel", "exact", "[J", true)
  | _ => ("ShortEnoughModel", "keptAs", "[J", true)
def tyX12 : Nat → FieldType := fun k => match k with
  | 0 => .array .int
  | 1 => .int
  | 2 => .array .int
  | 3 => .int
  | 4 => .int
  | 5 => .int
  | 6 => .int
  | 7 => .int
  | 8 => .int
  | 9 => .int
  | 10 => .array .int
  | 11 => .int
  | 12 => .array .int
  | 13 => .array .int
  | 14 => .array .int
  | 15 => .array .int
  | 16 => .array .int
  | 17 => .array .int
  | 18 => .array .int
  | 19 => .array .int
  | 20 => .array .int
  | 21 => .array .int
  | 22 => .array .long
  | 23 => .array .long
  | 24 => .array .int
  | 25 => .array .int
  | 26 => .array .int
  | 27 => .array .int
  | 28 => .long
  | 29 => .array .int
  | 30 => .int
  | 31 => .array .long
  | 32 => .array .long
  | 33 => .int
  | 34 => .long
  | 35 => .array .boolean
  | 36 => .array .int
  | 37 => .array .int
  | 38 => .boolean
  | 39 => .array .int
  | 40 => .array .long
  | 41 => .int
  | 42 => .int
  | 43 => .array .int
  | 44 => .int
  | 45 => .int
  | 46 => .array .boolean
  | 47 => .array .int
  | 48 => .array .int
  | 49 => .array .int
  | 50 => .int
  | 51 => .int
  | 52 => .int
  | 53 => .int
  | 54 => .array .int
  | 55 => .array .long
  | 56 => .array .int
  | 57 => .int
  | 58 => .int
  | 59 => .int
  | 60 => .array .int
  | 61 => .array .long
  | 62 => .array .long
  | 63 => .array .long
  | 64 => .int
  | 65 => .array .long
  | _ => .array .long
abbrev wsX120 : List Cond := u_ws RX12 TX12 67
theorem nmX12 : ∀ a, a < 67 → ∀ b, b < 67 → a ≠ b → (TX12 a).2.1 ≠ (TX12 b).2.1 := by decide +kernel
theorem tyX12_ok : ∀ k, k < 67 → parseFieldDescriptor (TX12 k).2.2.1 = some (tyX12 k) := by decide +kernel
abbrev cX12_isIn : ByteArray := prog_14_method_1_code
def yX12_isIn : MethodName := ⟨RX12, "isIn", "(JJJ)Z"⟩
abbrev cX12_isRefused : ByteArray := prog_14_method_8_code
def yX12_isRefused : MethodName := ⟨RX12, "isRefused", "(I)Z"⟩
abbrev cX12_end : ByteArray := prog_14_method_11_code
def yX12_end : MethodName := ⟨RX12, "end", "(I)Z"⟩
abbrev cX12_isNumber : ByteArray := prog_14_method_46_code
def yX12_isNumber : MethodName := ⟨RX12, "isNumber", "(I)Z"⟩
abbrev cX12_uses : ByteArray := prog_14_method_68_code
def yX12_uses : MethodName := ⟨RX12, "uses", "(I)I"⟩
abbrev cX12_status : ByteArray := prog_14_method_128_code
def yX12_status : MethodName := ⟨RX12, "status", "(I)I"⟩
def wsX6_init : List Cond := .code yX6_init cX6_init 1 none :: ([.methodLink RX6 3 objectInit, .instanceMethod objectInit, .code objectInit ⟨#[0xb1]⟩ 1 none, .arrayClass .long, .fieldLink RX6 9 "ShortEnough$Ranges" "low" "[J", .fieldLink RX6 15 "ShortEnough$Ranges" "high" "[J", .arrayClass .boolean, .fieldLink RX6 18 "ShortEnough$Ranges" "wide" "[Z"] ++ wsX60)
def wsX7_init : List Cond := .code yX7_init cX7_init 1 none :: ([.methodLink RX7 3 objectInit, .instanceMethod objectInit, .code objectInit ⟨#[0xb1]⟩ 1 none, .arrayClass .long, .fieldLink RX7 9 "ShortEnough$Reckoning" "errors" "[J"] ++ wsX70)
def wsX0_init_r1 : List Cond := [Cond.methodLink RX0 3 objectInit, Cond.instanceMethod objectInit, Cond.code objectInit ⟨#[0xb1]⟩ 1 none, Cond.classLink RX0 9 RX6, Cond.instantiable RX6 3, Cond.initialized RX6, Cond.fieldLink RX0 12 "ShortEnough$CertificateReader" "said" "LShortEnough$Ranges;", Cond.classLink RX0 18 RX7, Cond.instantiable RX7 3, Cond.initialized RX7, Cond.fieldLink RX0 21 "ShortEnough$CertificateReader" "saidErrors" "LShortEnough$Reckoning;", Cond.arrayClass .int, Cond.fieldLink RX0 25 "ShortEnough$CertificateReader" "choice" "[I", Cond.fieldLink RX0 29 "ShortEnough$CertificateReader" "breaksAt" "I", Cond.fieldLink RX0 33 "ShortEnough$CertificateReader" "reason" "I", Cond.instanceMethod yX6_init, Cond.code yX6_init cX6_init 1 none, Cond.methodLink RX6 3 objectInit, Cond.arrayClass .long, Cond.fieldLink RX6 9 "ShortEnough$Ranges" "low" "[J", Cond.fieldLink RX6 15 "ShortEnough$Ranges" "high" "[J", Cond.arrayClass .boolean, Cond.fieldLink RX6 18 "ShortEnough$Ranges" "wide" "[Z", Cond.instanceMethod yX7_init]
def wsX0_init_r2 : List Cond := [Cond.code yX7_init cX7_init 1 none, Cond.methodLink RX7 3 objectInit, Cond.fieldLink RX7 9 "ShortEnough$Reckoning" "errors" "[J"]
def wsX0_init : List Cond := .code yX0_init cX0_init 1 none :: ((wsX0_init_r1 ++ wsX0_init_r2) ++ wsX60 ++ wsX00 ++ wsX70)
def wsX1_init : List Cond := .code yX1_init cX1_init 1 none :: ([.methodLink RX1 3 objectInit, .instanceMethod objectInit, .code objectInit ⟨#[0xb1]⟩ 1 none, .classLink RX1 9 RX7, .instantiable RX7 3, .initialized RX7, .fieldLink RX1 12 "ShortEnough$FullSearch" "reckoning" "LShortEnough$Reckoning;", .arrayClass .int, .fieldLink RX1 18 "ShortEnough$FullSearch" "choice" "[I", .fieldLink RX1 22 "ShortEnough$FullSearch" "prices" "[I", .fieldLink RX1 25 "ShortEnough$FullSearch" "errors" "[I", .fieldLink RX1 28 "ShortEnough$FullSearch" "best" "I", .fieldLink RX1 32 "ShortEnough$FullSearch" "frontOf" "I", .fieldLink RX1 35 "ShortEnough$FullSearch" "frontPrice" "[I", .fieldLink RX1 38 "ShortEnough$FullSearch" "frontError" "[I", .fieldLink RX1 41 "ShortEnough$FullSearch" "frontMany" "[I", .instanceMethod yX7_init, .code yX7_init cX7_init 1 none, .methodLink RX7 3 objectInit, .arrayClass .long, .fieldLink RX7 9 "ShortEnough$Reckoning" "errors" "[J"] ++ wsX70 ++ wsX10)
def wsX4_countAnswers : List Cond := .code yX4_countAnswers cX4_countAnswers 4 (some .int) :: ([.fieldLink RX4 36 "ShortEnough$Numbers" "count" "I", .fieldLink RX4 21 "ShortEnough$Numbers" "allowed" "[I"] ++ wsX40)
def wsX2_init : List Cond := .code yX2_init cX2_init 1 none :: ([.methodLink RX2 3 objectInit, .instanceMethod objectInit, .code objectInit ⟨#[0xb1]⟩ 1 none, .arrayClass .int, .fieldLink RX2 9 "ShortEnough$Groups" "of" "[I", .fieldLink RX2 15 "ShortEnough$Groups" "fixedAs" "[I", .fieldLink RX2 18 "ShortEnough$Groups" "leader" "[I"] ++ wsX20)
def wsX3_init : List Cond := .code yX3_init cX3_init 1 none :: ([.methodLink RX3 3 objectInit, .instanceMethod objectInit, .code objectInit ⟨#[0xb1]⟩ 1 none, .classLink RX3 9 RX7, .instantiable RX7 3, .initialized RX7, .fieldLink RX3 12 "ShortEnough$LocalSearch" "reckoning" "LShortEnough$Reckoning;", .arrayClass .int, .fieldLink RX3 18 "ShortEnough$LocalSearch" "near" "[I", .arrayClass .boolean, .fieldLink RX3 22 "ShortEnough$LocalSearch" "changed" "[Z", .fieldLink RX3 26 "ShortEnough$LocalSearch" "unchanged" "[I", .fieldLink RX3 29 "ShortEnough$LocalSearch" "partFrom" "[I", .fieldLink RX3 32 "ShortEnough$LocalSearch" "partTo" "[I", .fieldLink RX3 35 "ShortEnough$LocalSearch" "row" "[I", .fieldLink RX3 38 "ShortEnough$LocalSearch" "bestGroup" "I", .fieldLink RX3 42 "ShortEnough$LocalSearch" "bestFormat" "I", .instanceMethod yX7_init, .code yX7_init cX7_init 1 none, .methodLink RX7 3 objectInit, .arrayClass .long, .fieldLink RX7 9 "ShortEnough$Reckoning" "errors" "[J"] ++ wsX70 ++ wsX30)
def wsX4_init : List Cond := .code yX4_init cX4_init 1 none :: ([.methodLink RX4 3 objectInit, .instanceMethod objectInit, .code objectInit ⟨#[0xb1]⟩ 1 none, .arrayClass .int, .fieldLink RX4 9 "ShortEnough$Numbers" "name" "[I", .fieldLink RX4 15 "ShortEnough$Numbers" "op" "[I", .fieldLink RX4 18 "ShortEnough$Numbers" "fixedAs" "[I", .fieldLink RX4 21 "ShortEnough$Numbers" "allowed" "[I", .fieldLink RX4 24 "ShortEnough$Numbers" "lets" "[I", .fieldLink RX4 27 "ShortEnough$Numbers" "joined" "[I", .fieldLink RX4 30 "ShortEnough$Numbers" "made" "[I", .fieldLink RX4 33 "ShortEnough$Numbers" "amount" "[I"] ++ wsX40)
def wsX8_init : List Cond := .code yX8_init cX8_init 1 none :: ([.methodLink RX8 3 objectInit, .instanceMethod objectInit, .code objectInit ⟨#[0xb1]⟩ 1 none, .arrayClass .long, .fieldLink RX8 9 "ShortEnough$Sampler" "exact" "[J", .fieldLink RX8 15 "ShortEnough$Sampler" "kept" "[J"] ++ wsX80)
def wsX9_init_r1 : List Cond := [Cond.methodLink RX9 3 objectInit, Cond.instanceMethod objectInit, Cond.code objectInit ⟨#[0xb1]⟩ 1 none, Cond.arrayClass .int, Cond.fieldLink RX9 9 "ShortEnough$Task" "formatName" "[I", Cond.fieldLink RX9 15 "ShortEnough$Task" "step" "[I", Cond.fieldLink RX9 18 "ShortEnough$Task" "most" "[I", Cond.fieldLink RX9 21 "ShortEnough$Task" "price" "[I", Cond.classLink RX9 24 RX4, Cond.instantiable RX4 10, Cond.initialized RX4, Cond.fieldLink RX9 27 "ShortEnough$Task" "numbers" "LShortEnough$Numbers;", Cond.classLink RX9 31 RX2, Cond.instantiable RX2 6, Cond.initialized RX2, Cond.fieldLink RX9 34 "ShortEnough$Task" "groups" "LShortEnough$Groups;", Cond.classLink RX9 38 RX6, Cond.instantiable RX6 3, Cond.initialized RX6, Cond.fieldLink RX9 41 "ShortEnough$Task" "ranges" "LShortEnough$Ranges;", Cond.instanceMethod yX4_init, Cond.code yX4_init cX4_init 1 none, Cond.methodLink RX4 3 objectInit, Cond.fieldLink RX4 9 "ShortEnough$Numbers" "name" "[I"]
def wsX9_init_r2 : List Cond := [Cond.fieldLink RX4 15 "ShortEnough$Numbers" "op" "[I", Cond.fieldLink RX4 18 "ShortEnough$Numbers" "fixedAs" "[I", Cond.fieldLink RX4 21 "ShortEnough$Numbers" "allowed" "[I", Cond.fieldLink RX4 24 "ShortEnough$Numbers" "lets" "[I", Cond.fieldLink RX4 27 "ShortEnough$Numbers" "joined" "[I", Cond.fieldLink RX4 30 "ShortEnough$Numbers" "made" "[I", Cond.fieldLink RX4 33 "ShortEnough$Numbers" "amount" "[I", Cond.instanceMethod yX2_init, Cond.code yX2_init cX2_init 1 none, Cond.methodLink RX2 3 objectInit, Cond.fieldLink RX2 9 "ShortEnough$Groups" "of" "[I", Cond.fieldLink RX2 15 "ShortEnough$Groups" "fixedAs" "[I", Cond.fieldLink RX2 18 "ShortEnough$Groups" "leader" "[I", Cond.instanceMethod yX6_init, Cond.code yX6_init cX6_init 1 none, Cond.methodLink RX6 3 objectInit, Cond.arrayClass .long, Cond.fieldLink RX6 9 "ShortEnough$Ranges" "low" "[J", Cond.fieldLink RX6 15 "ShortEnough$Ranges" "high" "[J", Cond.arrayClass .boolean, Cond.fieldLink RX6 18 "ShortEnough$Ranges" "wide" "[Z"]
def wsX9_init : List Cond := .code yX9_init cX9_init 1 none :: ((wsX9_init_r1 ++ wsX9_init_r2) ++ wsX90 ++ wsX40 ++ wsX20 ++ wsX60)
def wsX11_refuse : List Cond := .code yX11_refuse cX11_refuse 2 (some .int) :: ([.fieldLink RX11 13 "ShortEnough" "refused" "[I"] ++ wsX110)
def wsX11_putBytes : List Cond := .code yX11_putBytes cX11_putBytes 3 none :: ([.fieldLink RX11 89 "ShortEnough" "tapeLength" "I", .fieldLink RX11 9 "ShortEnough" "tape" "[B"] ++ wsX110)
def wsX11_feed : List Cond := .code yX11_feed cX11_feed 6 (some .int) :: ([.fieldLink RX11 89 "ShortEnough" "tapeLength" "I", .methodLink RX11 92 yX11_refuse, .instanceMethod yX11_refuse, .selects RX11 yX11_refuse yX11_refuse, .initialized RX11, .code yX11_refuse cX11_refuse 2 (some .int), .fieldLink RX11 13 "ShortEnough" "refused" "[I", .methodLink RX11 96 yX11_putBytes, .instanceMethod yX11_putBytes, .selects RX11 yX11_putBytes yX11_putBytes, .code yX11_putBytes cX11_putBytes 3 none, .fieldLink RX11 9 "ShortEnough" "tape" "[B"] ++ wsX110)
def wsX11_end : List Cond := .code yX11_end cX11_end 2 (some .boolean) :: ([.fieldLink RX11 89 "ShortEnough" "tapeLength" "I", .methodLink RX11 92 yX11_refuse, .instanceMethod yX11_refuse, .selects RX11 yX11_refuse yX11_refuse, .initialized RX11, .code yX11_refuse cX11_refuse 2 (some .int), .fieldLink RX11 13 "ShortEnough" "refused" "[I"] ++ wsX110)
def wsX11_has : List Cond := .code yX11_has cX11_has 2 (some .int) :: ([.fieldLink RX11 27 "ShortEnough" "current" "LShortEnough$Task;", .fieldLink RX11 122 "ShortEnough$Task" "numbers" "LShortEnough$Numbers;", .fieldLink RX11 126 "ShortEnough$Numbers" "count" "I", .fieldLink RX11 137 "ShortEnough$Task" "formats" "I", .fieldLink RX11 140 "ShortEnough$Numbers" "inputs" "I", .fieldLink RX11 107 "ShortEnough$Task" "groups" "LShortEnough$Groups;", .fieldLink RX11 146 "ShortEnough$Groups" "count" "I", .fieldLink RX11 147 "ShortEnough$Groups" "free" "I", .fieldLink RX11 150 "ShortEnough$Task" "castPrice" "I", .fieldLink RX11 85 "ShortEnough" "seedNow" "I", .methodLink RX11 143 yX4_countAnswers, .instanceMethod yX4_countAnswers, .selects RX4 yX4_countAnswers yX4_countAnswers, .initialized RX4, .code yX4_countAnswers cX4_countAnswers 4 (some .int), .fieldLink RX4 36 "ShortEnough$Numbers" "count" "I", .fieldLink RX4 21 "ShortEnough$Numbers" "allowed" "[I"] ++ wsX110 ++ wsX90 ++ wsX40 ++ wsX20)
def wsX12_isIn : List Cond := .code yX12_isIn cX12_isIn 6 (some .boolean) :: ([])
def wsX12_isRefused : List Cond := .code yX12_isRefused cX12_isRefused 2 (some .boolean) :: ([.fieldLink RX12 17 "ShortEnoughModel" "refused" "[I"] ++ wsX120)
def wsX12_end : List Cond := .code yX12_end cX12_end 2 (some .boolean) :: ([.fieldLink RX12 13 "ShortEnoughModel" "taped" "I", .methodLink RX12 224 yX12_isRefused, .instanceMethod yX12_isRefused, .selects RX12 yX12_isRefused yX12_isRefused, .initialized RX12, .code yX12_isRefused cX12_isRefused 2 (some .boolean), .fieldLink RX12 17 "ShortEnoughModel" "refused" "[I"] ++ wsX120)
def wsX12_isNumber : List Cond := .code yX12_isNumber cX12_isNumber 2 (some .boolean) :: ([.fieldLink RX12 62 "ShortEnoughModel" "numbers" "[I", .methodLink RX12 263 yX12_isIn, .static yX12_isIn, .initialized RX12, .code yX12_isIn cX12_isIn 6 (some .boolean)] ++ wsX120)
def wsX12_uses : List Cond := .code yX12_uses cX12_uses 5 (some .int) :: ([.fieldLink RX12 62 "ShortEnoughModel" "numbers" "[I", .fieldLink RX12 71 "ShortEnoughModel" "first" "[I", .fieldLink RX12 74 "ShortEnoughModel" "second" "[I", .methodLink RX12 373 yX12_isNumber, .instanceMethod yX12_isNumber, .selects RX12 yX12_isNumber yX12_isNumber, .initialized RX12, .code yX12_isNumber cX12_isNumber 2 (some .boolean), .methodLink RX12 263 yX12_isIn, .static yX12_isIn, .code yX12_isIn cX12_isIn 6 (some .boolean)] ++ wsX120)
def wsX12_status : List Cond := .code yX12_status cX12_status 2 (some .int) :: ([.constantLong RX12 550 (4), .fieldLink RX12 17 "ShortEnoughModel" "refused" "[I", .methodLink RX12 263 yX12_isIn, .static yX12_isIn, .initialized RX12, .code yX12_isIn cX12_isIn 6 (some .boolean)] ++ wsX120)
set_option maxRecDepth 20000 in
theorem ggX0_init_X6_init : GoodIn wsX0_init wsX6_init := goodIn_r _ [17, 18, 2, 3, 19, 20, 21, 22, 23, 28, 29, 30] (by decide +kernel) (by decide +kernel)
set_option maxRecDepth 20000 in
theorem gX0_init_X6_init_n11 : GoodIn wsX0_init (wsX6_init) := ggX0_init_X6_init
set_option maxRecDepth 20000 in
theorem ggX0_init_X7_init : GoodIn wsX0_init wsX7_init := goodIn_r _ [25, 26, 2, 3, 19, 27, 36, 37, 38] (by decide +kernel) (by decide +kernel)
set_option maxRecDepth 20000 in
theorem gX0_init_X7_init_n20 : GoodIn wsX0_init (wsX7_init) := ggX0_init_X7_init
theorem dX0_init_0 : decode cX0_init 0 = .ok (.aload_n 0, 1) := by decide +kernel
theorem dX0_init_1 : decode cX0_init 1 = .ok (.invokespecial 3, 3) := by decide +kernel
theorem dX0_init_4 : decode cX0_init 4 = .ok (.aload_n 0, 1) := by decide +kernel
theorem dX0_init_5 : decode cX0_init 5 = .ok (.new 9, 3) := by decide +kernel
theorem dX0_init_8 : decode cX0_init 8 = .ok (.dup, 1) := by decide +kernel
theorem dX0_init_9 : decode cX0_init 9 = .ok (.invokespecial 11, 3) := by decide +kernel
theorem dX0_init_12 : decode cX0_init 12 = .ok (.putfield 12, 3) := by decide +kernel
theorem dX0_init_15 : decode cX0_init 15 = .ok (.aload_n 0, 1) := by decide +kernel
theorem dX0_init_16 : decode cX0_init 16 = .ok (.new 18, 3) := by decide +kernel
theorem dX0_init_19 : decode cX0_init 19 = .ok (.dup, 1) := by decide +kernel
theorem dX0_init_20 : decode cX0_init 20 = .ok (.invokespecial 20, 3) := by decide +kernel
theorem dX0_init_23 : decode cX0_init 23 = .ok (.putfield 21, 3) := by decide +kernel
theorem dX0_init_26 : decode cX0_init 26 = .ok (.aload_n 0, 1) := by decide +kernel
theorem dX0_init_27 : decode cX0_init 27 = .ok (.bipush 14, 2) := by decide +kernel
theorem dX0_init_29 : decode cX0_init 29 = .ok (.newarray .int, 2) := by decide +kernel
theorem dX0_init_31 : decode cX0_init 31 = .ok (.putfield 25, 3) := by decide +kernel
theorem dX0_init_34 : decode cX0_init 34 = .ok (.aload_n 0, 1) := by decide +kernel
theorem dX0_init_35 : decode cX0_init 35 = .ok (.iconst (-1), 1) := by decide +kernel
theorem dX0_init_36 : decode cX0_init 36 = .ok (.putfield 29, 3) := by decide +kernel
theorem dX0_init_39 : decode cX0_init 39 = .ok (.aload_n 0, 1) := by decide +kernel
theorem dX0_init_40 : decode cX0_init 40 = .ok (.iconst (-1), 1) := by decide +kernel
theorem dX0_init_41 : decode cX0_init 41 = .ok (.putfield 33, 3) := by decide +kernel
theorem dX0_init_44 : decode cX0_init 44 = .ok (.return_, 1) := by decide +kernel
set_option maxRecDepth 20000 in
theorem ggX1_init_X7_init : GoodIn wsX1_init wsX7_init := goodIn_r _ [18, 19, 2, 3, 20, 21, 22, 23, 24] (by decide +kernel) (by decide +kernel)
set_option maxRecDepth 20000 in
theorem gX1_init_X7_init_n11 : GoodIn wsX1_init (wsX7_init) := ggX1_init_X7_init
theorem dX1_init_0 : decode cX1_init 0 = .ok (.aload_n 0, 1) := by decide +kernel
theorem dX1_init_1 : decode cX1_init 1 = .ok (.invokespecial 3, 3) := by decide +kernel
theorem dX1_init_4 : decode cX1_init 4 = .ok (.aload_n 0, 1) := by decide +kernel
theorem dX1_init_5 : decode cX1_init 5 = .ok (.new 9, 3) := by decide +kernel
theorem dX1_init_8 : decode cX1_init 8 = .ok (.dup, 1) := by decide +kernel
theorem dX1_init_9 : decode cX1_init 9 = .ok (.invokespecial 11, 3) := by decide +kernel
theorem dX1_init_12 : decode cX1_init 12 = .ok (.putfield 12, 3) := by decide +kernel
theorem dX1_init_15 : decode cX1_init 15 = .ok (.aload_n 0, 1) := by decide +kernel
theorem dX1_init_16 : decode cX1_init 16 = .ok (.bipush 14, 2) := by decide +kernel
theorem dX1_init_18 : decode cX1_init 18 = .ok (.newarray .int, 2) := by decide +kernel
theorem dX1_init_20 : decode cX1_init 20 = .ok (.putfield 18, 3) := by decide +kernel
theorem dX1_init_23 : decode cX1_init 23 = .ok (.aload_n 0, 1) := by decide +kernel
theorem dX1_init_24 : decode cX1_init 24 = .ok (.iconst 0, 1) := by decide +kernel
theorem dX1_init_25 : decode cX1_init 25 = .ok (.newarray .int, 2) := by decide +kernel
theorem dX1_init_27 : decode cX1_init 27 = .ok (.putfield 22, 3) := by decide +kernel
theorem dX1_init_30 : decode cX1_init 30 = .ok (.aload_n 0, 1) := by decide +kernel
theorem dX1_init_31 : decode cX1_init 31 = .ok (.iconst 0, 1) := by decide +kernel
theorem dX1_init_32 : decode cX1_init 32 = .ok (.newarray .int, 2) := by decide +kernel
theorem dX1_init_34 : decode cX1_init 34 = .ok (.putfield 25, 3) := by decide +kernel
theorem dX1_init_37 : decode cX1_init 37 = .ok (.aload_n 0, 1) := by decide +kernel
theorem dX1_init_38 : decode cX1_init 38 = .ok (.iconst (-1), 1) := by decide +kernel
theorem dX1_init_39 : decode cX1_init 39 = .ok (.putfield 28, 3) := by decide +kernel
theorem dX1_init_42 : decode cX1_init 42 = .ok (.aload_n 0, 1) := by decide +kernel
theorem dX1_init_43 : decode cX1_init 43 = .ok (.iconst (-1), 1) := by decide +kernel
theorem dX1_init_44 : decode cX1_init 44 = .ok (.putfield 32, 3) := by decide +kernel
theorem dX1_init_47 : decode cX1_init 47 = .ok (.aload_n 0, 1) := by decide +kernel
theorem dX1_init_48 : decode cX1_init 48 = .ok (.iconst 0, 1) := by decide +kernel
theorem dX1_init_49 : decode cX1_init 49 = .ok (.newarray .int, 2) := by decide +kernel
theorem dX1_init_51 : decode cX1_init 51 = .ok (.putfield 35, 3) := by decide +kernel
theorem dX1_init_54 : decode cX1_init 54 = .ok (.aload_n 0, 1) := by decide +kernel
theorem dX1_init_55 : decode cX1_init 55 = .ok (.iconst 0, 1) := by decide +kernel
theorem dX1_init_56 : decode cX1_init 56 = .ok (.newarray .int, 2) := by decide +kernel
theorem dX1_init_58 : decode cX1_init 58 = .ok (.putfield 38, 3) := by decide +kernel
theorem dX1_init_61 : decode cX1_init 61 = .ok (.aload_n 0, 1) := by decide +kernel
theorem dX1_init_62 : decode cX1_init 62 = .ok (.iconst 0, 1) := by decide +kernel
theorem dX1_init_63 : decode cX1_init 63 = .ok (.newarray .int, 2) := by decide +kernel
theorem dX1_init_65 : decode cX1_init 65 = .ok (.putfield 41, 3) := by decide +kernel
theorem dX1_init_68 : decode cX1_init 68 = .ok (.return_, 1) := by decide +kernel
theorem dX2_init_0 : decode cX2_init 0 = .ok (.aload_n 0, 1) := by decide +kernel
theorem dX2_init_1 : decode cX2_init 1 = .ok (.invokespecial 3, 3) := by decide +kernel
theorem dX2_init_4 : decode cX2_init 4 = .ok (.aload_n 0, 1) := by decide +kernel
theorem dX2_init_5 : decode cX2_init 5 = .ok (.bipush 14, 2) := by decide +kernel
theorem dX2_init_7 : decode cX2_init 7 = .ok (.newarray .int, 2) := by decide +kernel
theorem dX2_init_9 : decode cX2_init 9 = .ok (.putfield 9, 3) := by decide +kernel
theorem dX2_init_12 : decode cX2_init 12 = .ok (.aload_n 0, 1) := by decide +kernel
theorem dX2_init_13 : decode cX2_init 13 = .ok (.bipush 14, 2) := by decide +kernel
theorem dX2_init_15 : decode cX2_init 15 = .ok (.newarray .int, 2) := by decide +kernel
theorem dX2_init_17 : decode cX2_init 17 = .ok (.putfield 15, 3) := by decide +kernel
theorem dX2_init_20 : decode cX2_init 20 = .ok (.aload_n 0, 1) := by decide +kernel
theorem dX2_init_21 : decode cX2_init 21 = .ok (.bipush 14, 2) := by decide +kernel
theorem dX2_init_23 : decode cX2_init 23 = .ok (.newarray .int, 2) := by decide +kernel
theorem dX2_init_25 : decode cX2_init 25 = .ok (.putfield 18, 3) := by decide +kernel
theorem dX2_init_28 : decode cX2_init 28 = .ok (.return_, 1) := by decide +kernel
set_option maxRecDepth 20000 in
theorem ggX3_init_X7_init : GoodIn wsX3_init wsX7_init := goodIn_r _ [19, 20, 2, 3, 21, 22, 23, 24, 25] (by decide +kernel) (by decide +kernel)
set_option maxRecDepth 20000 in
theorem gX3_init_X7_init_n11 : GoodIn wsX3_init (wsX7_init) := ggX3_init_X7_init
theorem dX3_init_0 : decode cX3_init 0 = .ok (.aload_n 0, 1) := by decide +kernel
theorem dX3_init_1 : decode cX3_init 1 = .ok (.invokespecial 3, 3) := by decide +kernel
theorem dX3_init_4 : decode cX3_init 4 = .ok (.aload_n 0, 1) := by decide +kernel
theorem dX3_init_5 : decode cX3_init 5 = .ok (.new 9, 3) := by decide +kernel
theorem dX3_init_8 : decode cX3_init 8 = .ok (.dup, 1) := by decide +kernel
theorem dX3_init_9 : decode cX3_init 9 = .ok (.invokespecial 11, 3) := by decide +kernel
theorem dX3_init_12 : decode cX3_init 12 = .ok (.putfield 12, 3) := by decide +kernel
theorem dX3_init_15 : decode cX3_init 15 = .ok (.aload_n 0, 1) := by decide +kernel
theorem dX3_init_16 : decode cX3_init 16 = .ok (.bipush 14, 2) := by decide +kernel
theorem dX3_init_18 : decode cX3_init 18 = .ok (.newarray .int, 2) := by decide +kernel
theorem dX3_init_20 : decode cX3_init 20 = .ok (.putfield 18, 3) := by decide +kernel
theorem dX3_init_23 : decode cX3_init 23 = .ok (.aload_n 0, 1) := by decide +kernel
theorem dX3_init_24 : decode cX3_init 24 = .ok (.bipush 14, 2) := by decide +kernel
theorem dX3_init_26 : decode cX3_init 26 = .ok (.newarray .boolean, 2) := by decide +kernel
theorem dX3_init_28 : decode cX3_init 28 = .ok (.putfield 22, 3) := by decide +kernel
theorem dX3_init_31 : decode cX3_init 31 = .ok (.aload_n 0, 1) := by decide +kernel
theorem dX3_init_32 : decode cX3_init 32 = .ok (.bipush 14, 2) := by decide +kernel
theorem dX3_init_34 : decode cX3_init 34 = .ok (.newarray .int, 2) := by decide +kernel
theorem dX3_init_36 : decode cX3_init 36 = .ok (.putfield 26, 3) := by decide +kernel
theorem dX3_init_39 : decode cX3_init 39 = .ok (.aload_n 0, 1) := by decide +kernel
theorem dX3_init_40 : decode cX3_init 40 = .ok (.bipush 28, 2) := by decide +kernel
theorem dX3_init_42 : decode cX3_init 42 = .ok (.newarray .int, 2) := by decide +kernel
theorem dX3_init_44 : decode cX3_init 44 = .ok (.putfield 29, 3) := by decide +kernel
theorem dX3_init_47 : decode cX3_init 47 = .ok (.aload_n 0, 1) := by decide +kernel
theorem dX3_init_48 : decode cX3_init 48 = .ok (.bipush 28, 2) := by decide +kernel
theorem dX3_init_50 : decode cX3_init 50 = .ok (.newarray .int, 2) := by decide +kernel
theorem dX3_init_52 : decode cX3_init 52 = .ok (.putfield 32, 3) := by decide +kernel
theorem dX3_init_55 : decode cX3_init 55 = .ok (.aload_n 0, 1) := by decide +kernel
theorem dX3_init_56 : decode cX3_init 56 = .ok (.bipush 14, 2) := by decide +kernel
theorem dX3_init_58 : decode cX3_init 58 = .ok (.newarray .int, 2) := by decide +kernel
theorem dX3_init_60 : decode cX3_init 60 = .ok (.putfield 35, 3) := by decide +kernel
theorem dX3_init_63 : decode cX3_init 63 = .ok (.aload_n 0, 1) := by decide +kernel
theorem dX3_init_64 : decode cX3_init 64 = .ok (.iconst (-1), 1) := by decide +kernel
theorem dX3_init_65 : decode cX3_init 65 = .ok (.putfield 38, 3) := by decide +kernel
theorem dX3_init_68 : decode cX3_init 68 = .ok (.aload_n 0, 1) := by decide +kernel
theorem dX3_init_69 : decode cX3_init 69 = .ok (.iconst (-1), 1) := by decide +kernel
theorem dX3_init_70 : decode cX3_init 70 = .ok (.putfield 42, 3) := by decide +kernel
theorem dX3_init_73 : decode cX3_init 73 = .ok (.return_, 1) := by decide +kernel
theorem dX4_init_0 : decode cX4_init 0 = .ok (.aload_n 0, 1) := by decide +kernel
theorem dX4_init_1 : decode cX4_init 1 = .ok (.invokespecial 3, 3) := by decide +kernel
theorem dX4_init_4 : decode cX4_init 4 = .ok (.aload_n 0, 1) := by decide +kernel
theorem dX4_init_5 : decode cX4_init 5 = .ok (.bipush 14, 2) := by decide +kernel
theorem dX4_init_7 : decode cX4_init 7 = .ok (.newarray .int, 2) := by decide +kernel
theorem dX4_init_9 : decode cX4_init 9 = .ok (.putfield 9, 3) := by decide +kernel
theorem dX4_init_12 : decode cX4_init 12 = .ok (.aload_n 0, 1) := by decide +kernel
theorem dX4_init_13 : decode cX4_init 13 = .ok (.bipush 14, 2) := by decide +kernel
theorem dX4_init_15 : decode cX4_init 15 = .ok (.newarray .int, 2) := by decide +kernel
theorem dX4_init_17 : decode cX4_init 17 = .ok (.putfield 15, 3) := by decide +kernel
theorem dX4_init_20 : decode cX4_init 20 = .ok (.aload_n 0, 1) := by decide +kernel
theorem dX4_init_21 : decode cX4_init 21 = .ok (.bipush 14, 2) := by decide +kernel
theorem dX4_init_23 : decode cX4_init 23 = .ok (.newarray .int, 2) := by decide +kernel
theorem dX4_init_25 : decode cX4_init 25 = .ok (.putfield 18, 3) := by decide +kernel
theorem dX4_init_28 : decode cX4_init 28 = .ok (.aload_n 0, 1) := by decide +kernel
theorem dX4_init_29 : decode cX4_init 29 = .ok (.bipush 14, 2) := by decide +kernel
theorem dX4_init_31 : decode cX4_init 31 = .ok (.newarray .int, 2) := by decide +kernel
theorem dX4_init_33 : decode cX4_init 33 = .ok (.putfield 21, 3) := by decide +kernel
theorem dX4_init_36 : decode cX4_init 36 = .ok (.aload_n 0, 1) := by decide +kernel
theorem dX4_init_37 : decode cX4_init 37 = .ok (.bipush 14, 2) := by decide +kernel
theorem dX4_init_39 : decode cX4_init 39 = .ok (.newarray .int, 2) := by decide +kernel
theorem dX4_init_41 : decode cX4_init 41 = .ok (.putfield 24, 3) := by decide +kernel
theorem dX4_init_44 : decode cX4_init 44 = .ok (.aload_n 0, 1) := by decide +kernel
theorem dX4_init_45 : decode cX4_init 45 = .ok (.bipush 14, 2) := by decide +kernel
theorem dX4_init_47 : decode cX4_init 47 = .ok (.newarray .int, 2) := by decide +kernel
theorem dX4_init_49 : decode cX4_init 49 = .ok (.putfield 27, 3) := by decide +kernel
theorem dX4_init_52 : decode cX4_init 52 = .ok (.aload_n 0, 1) := by decide +kernel
theorem dX4_init_53 : decode cX4_init 53 = .ok (.bipush 28, 2) := by decide +kernel
theorem dX4_init_55 : decode cX4_init 55 = .ok (.newarray .int, 2) := by decide +kernel
theorem dX4_init_57 : decode cX4_init 57 = .ok (.putfield 30, 3) := by decide +kernel
theorem dX4_init_60 : decode cX4_init 60 = .ok (.aload_n 0, 1) := by decide +kernel
theorem dX4_init_61 : decode cX4_init 61 = .ok (.bipush 28, 2) := by decide +kernel
theorem dX4_init_63 : decode cX4_init 63 = .ok (.newarray .int, 2) := by decide +kernel
theorem dX4_init_65 : decode cX4_init 65 = .ok (.putfield 33, 3) := by decide +kernel
theorem dX4_init_68 : decode cX4_init 68 = .ok (.return_, 1) := by decide +kernel
theorem dX4_countAnswers_0 : decode cX4_countAnswers 0 = .ok (.iconst 0, 1) := by decide +kernel
theorem dX4_countAnswers_1 : decode cX4_countAnswers 1 = .ok (.istore_n 2, 1) := by decide +kernel
theorem dX4_countAnswers_2 : decode cX4_countAnswers 2 = .ok (.iconst 0, 1) := by decide +kernel
theorem dX4_countAnswers_3 : decode cX4_countAnswers 3 = .ok (.istore_n 3, 1) := by decide +kernel
theorem dX4_countAnswers_4 : decode cX4_countAnswers 4 = .ok (.iload_n 3, 1) := by decide +kernel
theorem dX4_countAnswers_5 : decode cX4_countAnswers 5 = .ok (.iload_n 1, 1) := by decide +kernel
theorem dX4_countAnswers_6 : decode cX4_countAnswers 6 = .ok (.if_icmp .ge 35, 3) := by decide +kernel
theorem dX4_countAnswers_41 : decode cX4_countAnswers 41 = .ok (.iload_n 2, 1) := by decide +kernel
theorem dX4_countAnswers_42 : decode cX4_countAnswers 42 = .ok (.ireturn, 1) := by decide +kernel
theorem dX6_init_0 : decode cX6_init 0 = .ok (.aload_n 0, 1) := by decide +kernel
theorem dX6_init_1 : decode cX6_init 1 = .ok (.invokespecial 3, 3) := by decide +kernel
theorem dX6_init_4 : decode cX6_init 4 = .ok (.aload_n 0, 1) := by decide +kernel
theorem dX6_init_5 : decode cX6_init 5 = .ok (.bipush 14, 2) := by decide +kernel
theorem dX6_init_7 : decode cX6_init 7 = .ok (.newarray .long, 2) := by decide +kernel
theorem dX6_init_9 : decode cX6_init 9 = .ok (.putfield 9, 3) := by decide +kernel
theorem dX6_init_12 : decode cX6_init 12 = .ok (.aload_n 0, 1) := by decide +kernel
theorem dX6_init_13 : decode cX6_init 13 = .ok (.bipush 14, 2) := by decide +kernel
theorem dX6_init_15 : decode cX6_init 15 = .ok (.newarray .long, 2) := by decide +kernel
theorem dX6_init_17 : decode cX6_init 17 = .ok (.putfield 15, 3) := by decide +kernel
theorem dX6_init_20 : decode cX6_init 20 = .ok (.aload_n 0, 1) := by decide +kernel
theorem dX6_init_21 : decode cX6_init 21 = .ok (.bipush 14, 2) := by decide +kernel
theorem dX6_init_23 : decode cX6_init 23 = .ok (.newarray .boolean, 2) := by decide +kernel
theorem dX6_init_25 : decode cX6_init 25 = .ok (.putfield 18, 3) := by decide +kernel
theorem dX6_init_28 : decode cX6_init 28 = .ok (.return_, 1) := by decide +kernel
theorem dX7_init_0 : decode cX7_init 0 = .ok (.aload_n 0, 1) := by decide +kernel
theorem dX7_init_1 : decode cX7_init 1 = .ok (.invokespecial 3, 3) := by decide +kernel
theorem dX7_init_4 : decode cX7_init 4 = .ok (.aload_n 0, 1) := by decide +kernel
theorem dX7_init_5 : decode cX7_init 5 = .ok (.bipush 14, 2) := by decide +kernel
theorem dX7_init_7 : decode cX7_init 7 = .ok (.newarray .long, 2) := by decide +kernel
theorem dX7_init_9 : decode cX7_init 9 = .ok (.putfield 9, 3) := by decide +kernel
theorem dX7_init_12 : decode cX7_init 12 = .ok (.return_, 1) := by decide +kernel
theorem dX8_init_0 : decode cX8_init 0 = .ok (.aload_n 0, 1) := by decide +kernel
theorem dX8_init_1 : decode cX8_init 1 = .ok (.invokespecial 3, 3) := by decide +kernel
theorem dX8_init_4 : decode cX8_init 4 = .ok (.aload_n 0, 1) := by decide +kernel
theorem dX8_init_5 : decode cX8_init 5 = .ok (.bipush 14, 2) := by decide +kernel
theorem dX8_init_7 : decode cX8_init 7 = .ok (.newarray .long, 2) := by decide +kernel
theorem dX8_init_9 : decode cX8_init 9 = .ok (.putfield 9, 3) := by decide +kernel
theorem dX8_init_12 : decode cX8_init 12 = .ok (.aload_n 0, 1) := by decide +kernel
theorem dX8_init_13 : decode cX8_init 13 = .ok (.bipush 14, 2) := by decide +kernel
theorem dX8_init_15 : decode cX8_init 15 = .ok (.newarray .long, 2) := by decide +kernel
theorem dX8_init_17 : decode cX8_init 17 = .ok (.putfield 15, 3) := by decide +kernel
theorem dX8_init_20 : decode cX8_init 20 = .ok (.return_, 1) := by decide +kernel
set_option maxRecDepth 20000 in
theorem ggX9_init_X4_init : GoodIn wsX9_init wsX4_init := goodIn_r _ [22, 23, 2, 3, 4, 24, 25, 26, 27, 28, 29, 30, 31, 55, 56, 57, 58, 59, 60, 61, 62, 63, 64] (by decide +kernel) (by decide +kernel)
set_option maxRecDepth 20000 in
theorem gX9_init_X4_init_n26 : GoodIn wsX9_init (wsX4_init) := ggX9_init_X4_init
set_option maxRecDepth 20000 in
theorem ggX9_init_X2_init : GoodIn wsX9_init wsX2_init := goodIn_r _ [33, 34, 2, 3, 4, 35, 36, 37, 65, 66, 67, 68, 69, 70] (by decide +kernel) (by decide +kernel)
set_option maxRecDepth 20000 in
theorem gX9_init_X2_init_n33 : GoodIn wsX9_init (wsX2_init) := ggX9_init_X2_init
set_option maxRecDepth 20000 in
theorem ggX9_init_X6_init : GoodIn wsX9_init wsX6_init := goodIn_r _ [39, 40, 2, 3, 41, 42, 43, 44, 45, 71, 72, 73] (by decide +kernel) (by decide +kernel)
set_option maxRecDepth 20000 in
theorem gX9_init_X6_init_n40 : GoodIn wsX9_init (wsX6_init) := ggX9_init_X6_init
theorem dX9_init_0 : decode cX9_init 0 = .ok (.aload_n 0, 1) := by decide +kernel
theorem dX9_init_1 : decode cX9_init 1 = .ok (.invokespecial 3, 3) := by decide +kernel
theorem dX9_init_4 : decode cX9_init 4 = .ok (.aload_n 0, 1) := by decide +kernel
theorem dX9_init_5 : decode cX9_init 5 = .ok (.iconst 4, 1) := by decide +kernel
theorem dX9_init_6 : decode cX9_init 6 = .ok (.newarray .int, 2) := by decide +kernel
theorem dX9_init_8 : decode cX9_init 8 = .ok (.putfield 9, 3) := by decide +kernel
theorem dX9_init_11 : decode cX9_init 11 = .ok (.aload_n 0, 1) := by decide +kernel
theorem dX9_init_12 : decode cX9_init 12 = .ok (.iconst 4, 1) := by decide +kernel
theorem dX9_init_13 : decode cX9_init 13 = .ok (.newarray .int, 2) := by decide +kernel
theorem dX9_init_15 : decode cX9_init 15 = .ok (.putfield 15, 3) := by decide +kernel
theorem dX9_init_18 : decode cX9_init 18 = .ok (.aload_n 0, 1) := by decide +kernel
theorem dX9_init_19 : decode cX9_init 19 = .ok (.iconst 4, 1) := by decide +kernel
theorem dX9_init_20 : decode cX9_init 20 = .ok (.newarray .int, 2) := by decide +kernel
theorem dX9_init_22 : decode cX9_init 22 = .ok (.putfield 18, 3) := by decide +kernel
theorem dX9_init_25 : decode cX9_init 25 = .ok (.aload_n 0, 1) := by decide +kernel
theorem dX9_init_26 : decode cX9_init 26 = .ok (.iconst 4, 1) := by decide +kernel
theorem dX9_init_27 : decode cX9_init 27 = .ok (.newarray .int, 2) := by decide +kernel
theorem dX9_init_29 : decode cX9_init 29 = .ok (.putfield 21, 3) := by decide +kernel
theorem dX9_init_32 : decode cX9_init 32 = .ok (.aload_n 0, 1) := by decide +kernel
theorem dX9_init_33 : decode cX9_init 33 = .ok (.new 24, 3) := by decide +kernel
theorem dX9_init_36 : decode cX9_init 36 = .ok (.dup, 1) := by decide +kernel
theorem dX9_init_37 : decode cX9_init 37 = .ok (.invokespecial 26, 3) := by decide +kernel
theorem dX9_init_40 : decode cX9_init 40 = .ok (.putfield 27, 3) := by decide +kernel
theorem dX9_init_43 : decode cX9_init 43 = .ok (.aload_n 0, 1) := by decide +kernel
theorem dX9_init_44 : decode cX9_init 44 = .ok (.new 31, 3) := by decide +kernel
theorem dX9_init_47 : decode cX9_init 47 = .ok (.dup, 1) := by decide +kernel
theorem dX9_init_48 : decode cX9_init 48 = .ok (.invokespecial 33, 3) := by decide +kernel
theorem dX9_init_51 : decode cX9_init 51 = .ok (.putfield 34, 3) := by decide +kernel
theorem dX9_init_54 : decode cX9_init 54 = .ok (.aload_n 0, 1) := by decide +kernel
theorem dX9_init_55 : decode cX9_init 55 = .ok (.new 38, 3) := by decide +kernel
theorem dX9_init_58 : decode cX9_init 58 = .ok (.dup, 1) := by decide +kernel
theorem dX9_init_59 : decode cX9_init 59 = .ok (.invokespecial 40, 3) := by decide +kernel
theorem dX9_init_62 : decode cX9_init 62 = .ok (.putfield 41, 3) := by decide +kernel
theorem dX9_init_65 : decode cX9_init 65 = .ok (.return_, 1) := by decide +kernel
set_option maxRecDepth 20000 in
theorem ggX11_feed_X11_putBytes : GoodIn wsX11_feed wsX11_putBytes := goodIn_r _ [11, 1, 12, 13, 14, 15, 16, 17, 18, 19, 20, 21, 22, 23, 24, 25, 26, 27, 28] (by decide +kernel) (by decide +kernel)
set_option maxRecDepth 20000 in
theorem gX11_feed_X11_putBytes : GoodIn wsX11_feed (wsV RX11 96 RX11 yX11_putBytes wsX11_putBytes) := goodIn_app (goodIn_of _ (by decide +kernel)) ggX11_feed_X11_putBytes
theorem dX11_feed_0 : decode cX11_feed 0 = .ok (.aload_n 0, 1) := by decide +kernel
theorem dX11_feed_1 : decode cX11_feed 1 = .ok (.getfield 89, 3) := by decide +kernel
theorem dX11_feed_4 : decode cX11_feed 4 = .ok (.sipush 1180, 3) := by decide +kernel
theorem dX11_feed_7 : decode cX11_feed 7 = .ok (.if_icmp .le 9, 3) := by decide +kernel
theorem dX11_feed_16 : decode cX11_feed 16 = .ok (.aload_n 0, 1) := by decide +kernel
theorem dX11_feed_17 : decode cX11_feed 17 = .ok (.iload_n 1, 1) := by decide +kernel
theorem dX11_feed_18 : decode cX11_feed 18 = .ok (.invokevirtual 96, 3) := by decide +kernel
theorem dX11_feed_21 : decode cX11_feed 21 = .ok (.aload_n 0, 1) := by decide +kernel
theorem dX11_feed_22 : decode cX11_feed 22 = .ok (.iload_n 2, 1) := by decide +kernel
theorem dX11_feed_23 : decode cX11_feed 23 = .ok (.invokevirtual 96, 3) := by decide +kernel
theorem dX11_feed_26 : decode cX11_feed 26 = .ok (.aload_n 0, 1) := by decide +kernel
theorem dX11_feed_27 : decode cX11_feed 27 = .ok (.iload_n 3, 1) := by decide +kernel
theorem dX11_feed_28 : decode cX11_feed 28 = .ok (.invokevirtual 96, 3) := by decide +kernel
theorem dX11_feed_31 : decode cX11_feed 31 = .ok (.aload_n 0, 1) := by decide +kernel
theorem dX11_feed_32 : decode cX11_feed 32 = .ok (.iload 4, 2) := by decide +kernel
theorem dX11_feed_34 : decode cX11_feed 34 = .ok (.invokevirtual 96, 3) := by decide +kernel
theorem dX11_feed_37 : decode cX11_feed 37 = .ok (.aload_n 0, 1) := by decide +kernel
theorem dX11_feed_38 : decode cX11_feed 38 = .ok (.iload 5, 2) := by decide +kernel
theorem dX11_feed_40 : decode cX11_feed 40 = .ok (.invokevirtual 96, 3) := by decide +kernel
theorem dX11_feed_43 : decode cX11_feed 43 = .ok (.aload_n 0, 1) := by decide +kernel
theorem dX11_feed_44 : decode cX11_feed 44 = .ok (.getfield 89, 3) := by decide +kernel
theorem dX11_feed_47 : decode cX11_feed 47 = .ok (.ireturn, 1) := by decide +kernel
set_option maxRecDepth 20000 in
theorem ggX11_end_X11_refuse : GoodIn wsX11_end wsX11_refuse := goodIn_r _ [6, 7, 8, 9, 10, 11, 12, 13, 14, 15, 16, 17, 18, 19, 20, 21, 22, 23] (by decide +kernel) (by decide +kernel)
set_option maxRecDepth 20000 in
theorem gX11_end_X11_refuse : GoodIn wsX11_end (wsV RX11 92 RX11 yX11_refuse wsX11_refuse) := goodIn_app (goodIn_of _ (by decide +kernel)) ggX11_end_X11_refuse
theorem dX11_end_0 : decode cX11_end 0 = .ok (.iload_n 1, 1) := by decide +kernel
theorem dX11_end_1 : decode cX11_end 1 = .ok (.ifCond .lt 11, 3) := by decide +kernel
theorem dX11_end_4 : decode cX11_end 4 = .ok (.iload_n 1, 1) := by decide +kernel
theorem dX11_end_5 : decode cX11_end 5 = .ok (.aload_n 0, 1) := by decide +kernel
theorem dX11_end_6 : decode cX11_end 6 = .ok (.getfield 89, 3) := by decide +kernel
theorem dX11_end_9 : decode cX11_end 9 = .ok (.if_icmp .le 11, 3) := by decide +kernel
theorem dX11_end_12 : decode cX11_end 12 = .ok (.aload_n 0, 1) := by decide +kernel
theorem dX11_end_13 : decode cX11_end 13 = .ok (.iconst 0, 1) := by decide +kernel
theorem dX11_end_14 : decode cX11_end 14 = .ok (.invokevirtual 92, 3) := by decide +kernel
theorem dX11_end_17 : decode cX11_end 17 = .ok (.pop, 1) := by decide +kernel
theorem dX11_end_18 : decode cX11_end 18 = .ok (.iconst 0, 1) := by decide +kernel
theorem dX11_end_19 : decode cX11_end 19 = .ok (.ireturn, 1) := by decide +kernel
theorem dX11_end_20 : decode cX11_end 20 = .ok (.aload_n 0, 1) := by decide +kernel
theorem dX11_end_21 : decode cX11_end 21 = .ok (.iload_n 1, 1) := by decide +kernel
theorem dX11_end_22 : decode cX11_end 22 = .ok (.putfield 89, 3) := by decide +kernel
theorem dX11_end_25 : decode cX11_end 25 = .ok (.iconst 1, 1) := by decide +kernel
theorem dX11_end_26 : decode cX11_end 26 = .ok (.ireturn, 1) := by decide +kernel
set_option maxRecDepth 20000 in
theorem ggX11_has_X4_countAnswers : GoodIn wsX11_has wsX4_countAnswers := goodIn_r _ [15, 16, 17, 43, 44, 45, 46, 47, 48, 49, 50, 51, 52] (by decide +kernel) (by decide +kernel)
set_option maxRecDepth 20000 in
theorem gX11_has_X4_countAnswers : GoodIn wsX11_has (wsV RX11 143 RX4 yX4_countAnswers wsX4_countAnswers) := goodIn_app (goodIn_of _ (by decide +kernel)) ggX11_has_X4_countAnswers
theorem dX11_has_0 : decode cX11_has 0 = .ok (.iload_n 1, 1) := by decide +kernel
theorem dX11_has_1 : decode cX11_has 1 = .ok (.tableswitch 133 0 7 #[47, 58, 66, 77, 98, 109, 120, 128], 47) := by decide +kernel
theorem dX11_has_48 : decode cX11_has 48 = .ok (.aload_n 0, 1) := by decide +kernel
theorem dX11_has_49 : decode cX11_has 49 = .ok (.getfield 27, 3) := by decide +kernel
theorem dX11_has_52 : decode cX11_has 52 = .ok (.getfield 122, 3) := by decide +kernel
theorem dX11_has_55 : decode cX11_has 55 = .ok (.getfield 126, 3) := by decide +kernel
theorem dX11_has_58 : decode cX11_has 58 = .ok (.ireturn, 1) := by decide +kernel
theorem dX11_has_59 : decode cX11_has 59 = .ok (.aload_n 0, 1) := by decide +kernel
theorem dX11_has_60 : decode cX11_has 60 = .ok (.getfield 27, 3) := by decide +kernel
theorem dX11_has_63 : decode cX11_has 63 = .ok (.getfield 137, 3) := by decide +kernel
theorem dX11_has_66 : decode cX11_has 66 = .ok (.ireturn, 1) := by decide +kernel
theorem dX11_has_67 : decode cX11_has 67 = .ok (.aload_n 0, 1) := by decide +kernel
theorem dX11_has_68 : decode cX11_has 68 = .ok (.getfield 27, 3) := by decide +kernel
theorem dX11_has_71 : decode cX11_has 71 = .ok (.getfield 122, 3) := by decide +kernel
theorem dX11_has_74 : decode cX11_has 74 = .ok (.getfield 140, 3) := by decide +kernel
theorem dX11_has_77 : decode cX11_has 77 = .ok (.ireturn, 1) := by decide +kernel
theorem dX11_has_78 : decode cX11_has 78 = .ok (.aload_n 0, 1) := by decide +kernel
theorem dX11_has_79 : decode cX11_has 79 = .ok (.getfield 27, 3) := by decide +kernel
theorem dX11_has_82 : decode cX11_has 82 = .ok (.getfield 122, 3) := by decide +kernel
theorem dX11_has_85 : decode cX11_has 85 = .ok (.aload_n 0, 1) := by decide +kernel
theorem dX11_has_86 : decode cX11_has 86 = .ok (.getfield 27, 3) := by decide +kernel
theorem dX11_has_89 : decode cX11_has 89 = .ok (.getfield 122, 3) := by decide +kernel
theorem dX11_has_92 : decode cX11_has 92 = .ok (.getfield 126, 3) := by decide +kernel
theorem dX11_has_95 : decode cX11_has 95 = .ok (.invokevirtual 143, 3) := by decide +kernel
theorem dX11_has_98 : decode cX11_has 98 = .ok (.ireturn, 1) := by decide +kernel
theorem dX11_has_99 : decode cX11_has 99 = .ok (.aload_n 0, 1) := by decide +kernel
theorem dX11_has_100 : decode cX11_has 100 = .ok (.getfield 27, 3) := by decide +kernel
theorem dX11_has_103 : decode cX11_has 103 = .ok (.getfield 107, 3) := by decide +kernel
theorem dX11_has_106 : decode cX11_has 106 = .ok (.getfield 146, 3) := by decide +kernel
theorem dX11_has_109 : decode cX11_has 109 = .ok (.ireturn, 1) := by decide +kernel
theorem dX11_has_110 : decode cX11_has 110 = .ok (.aload_n 0, 1) := by decide +kernel
theorem dX11_has_111 : decode cX11_has 111 = .ok (.getfield 27, 3) := by decide +kernel
theorem dX11_has_114 : decode cX11_has 114 = .ok (.getfield 107, 3) := by decide +kernel
theorem dX11_has_117 : decode cX11_has 117 = .ok (.getfield 147, 3) := by decide +kernel
theorem dX11_has_120 : decode cX11_has 120 = .ok (.ireturn, 1) := by decide +kernel
theorem dX11_has_121 : decode cX11_has 121 = .ok (.aload_n 0, 1) := by decide +kernel
theorem dX11_has_122 : decode cX11_has 122 = .ok (.getfield 27, 3) := by decide +kernel
theorem dX11_has_125 : decode cX11_has 125 = .ok (.getfield 150, 3) := by decide +kernel
theorem dX11_has_128 : decode cX11_has 128 = .ok (.ireturn, 1) := by decide +kernel
theorem dX11_has_129 : decode cX11_has 129 = .ok (.aload_n 0, 1) := by decide +kernel
theorem dX11_has_130 : decode cX11_has 130 = .ok (.getfield 85, 3) := by decide +kernel
theorem dX11_has_133 : decode cX11_has 133 = .ok (.ireturn, 1) := by decide +kernel
theorem dX11_has_134 : decode cX11_has 134 = .ok (.iconst (-1), 1) := by decide +kernel
theorem dX11_has_135 : decode cX11_has 135 = .ok (.ireturn, 1) := by decide +kernel
theorem dX11_refuse_0 : decode cX11_refuse 0 = .ok (.iload_n 1, 1) := by decide +kernel
theorem dX11_refuse_1 : decode cX11_refuse 1 = .ok (.ifCond .lt 18, 3) := by decide +kernel
theorem dX11_refuse_4 : decode cX11_refuse 4 = .ok (.iload_n 1, 1) := by decide +kernel
theorem dX11_refuse_5 : decode cX11_refuse 5 = .ok (.iconst 5, 1) := by decide +kernel
theorem dX11_refuse_6 : decode cX11_refuse 6 = .ok (.if_icmp .ge 13, 3) := by decide +kernel
theorem dX11_refuse_9 : decode cX11_refuse 9 = .ok (.aload_n 0, 1) := by decide +kernel
theorem dX11_refuse_10 : decode cX11_refuse 10 = .ok (.getfield 13, 3) := by decide +kernel
theorem dX11_refuse_13 : decode cX11_refuse 13 = .ok (.iload_n 1, 1) := by decide +kernel
theorem dX11_refuse_14 : decode cX11_refuse 14 = .ok (.dup2, 1) := by decide +kernel
theorem dX11_refuse_15 : decode cX11_refuse 15 = .ok (.iaload, 1) := by decide +kernel
theorem dX11_refuse_16 : decode cX11_refuse 16 = .ok (.iconst 1, 1) := by decide +kernel
theorem dX11_refuse_17 : decode cX11_refuse 17 = .ok (.iadd, 1) := by decide +kernel
theorem dX11_refuse_18 : decode cX11_refuse 18 = .ok (.iastore, 1) := by decide +kernel
theorem dX11_refuse_19 : decode cX11_refuse 19 = .ok (.iconst (-1), 1) := by decide +kernel
theorem dX11_refuse_20 : decode cX11_refuse 20 = .ok (.ireturn, 1) := by decide +kernel
theorem dX11_putBytes_0 : decode cX11_putBytes 0 = .ok (.bipush 24, 2) := by decide +kernel
theorem dX11_putBytes_2 : decode cX11_putBytes 2 = .ok (.istore_n 2, 1) := by decide +kernel
theorem dX11_putBytes_3 : decode cX11_putBytes 3 = .ok (.iload_n 2, 1) := by decide +kernel
theorem dX11_putBytes_4 : decode cX11_putBytes 4 = .ok (.ifCond .lt 42, 3) := by decide +kernel
theorem dX11_putBytes_7 : decode cX11_putBytes 7 = .ok (.aload_n 0, 1) := by decide +kernel
theorem dX11_putBytes_8 : decode cX11_putBytes 8 = .ok (.getfield 89, 3) := by decide +kernel
theorem dX11_putBytes_11 : decode cX11_putBytes 11 = .ok (.sipush 1200, 3) := by decide +kernel
theorem dX11_putBytes_14 : decode cX11_putBytes 14 = .ok (.if_icmp .ge 26, 3) := by decide +kernel
theorem dX11_putBytes_17 : decode cX11_putBytes 17 = .ok (.aload_n 0, 1) := by decide +kernel
theorem dX11_putBytes_18 : decode cX11_putBytes 18 = .ok (.getfield 9, 3) := by decide +kernel
theorem dX11_putBytes_21 : decode cX11_putBytes 21 = .ok (.aload_n 0, 1) := by decide +kernel
theorem dX11_putBytes_22 : decode cX11_putBytes 22 = .ok (.getfield 89, 3) := by decide +kernel
theorem dX11_putBytes_25 : decode cX11_putBytes 25 = .ok (.iload_n 1, 1) := by decide +kernel
theorem dX11_putBytes_26 : decode cX11_putBytes 26 = .ok (.iload_n 2, 1) := by decide +kernel
theorem dX11_putBytes_27 : decode cX11_putBytes 27 = .ok (.ishr, 1) := by decide +kernel
theorem dX11_putBytes_28 : decode cX11_putBytes 28 = .ok (.i2b, 1) := by decide +kernel
theorem dX11_putBytes_29 : decode cX11_putBytes 29 = .ok (.bastore, 1) := by decide +kernel
theorem dX11_putBytes_30 : decode cX11_putBytes 30 = .ok (.aload_n 0, 1) := by decide +kernel
theorem dX11_putBytes_31 : decode cX11_putBytes 31 = .ok (.dup, 1) := by decide +kernel
theorem dX11_putBytes_32 : decode cX11_putBytes 32 = .ok (.getfield 89, 3) := by decide +kernel
theorem dX11_putBytes_35 : decode cX11_putBytes 35 = .ok (.iconst 1, 1) := by decide +kernel
theorem dX11_putBytes_36 : decode cX11_putBytes 36 = .ok (.iadd, 1) := by decide +kernel
theorem dX11_putBytes_37 : decode cX11_putBytes 37 = .ok (.putfield 89, 3) := by decide +kernel
theorem dX11_putBytes_40 : decode cX11_putBytes 40 = .ok (.iinc 2 (-8), 3) := by decide +kernel
theorem dX11_putBytes_43 : decode cX11_putBytes 43 = .ok (.goto (-40), 3) := by decide +kernel
theorem dX11_putBytes_46 : decode cX11_putBytes 46 = .ok (.return_, 1) := by decide +kernel
theorem dX12_isIn_0 : decode cX12_isIn 0 = .ok (.lload_n 0, 1) := by decide +kernel
theorem dX12_isIn_1 : decode cX12_isIn 1 = .ok (.lload_n 2, 1) := by decide +kernel
theorem dX12_isIn_2 : decode cX12_isIn 2 = .ok (.lcmp, 1) := by decide +kernel
theorem dX12_isIn_3 : decode cX12_isIn 3 = .ok (.ifCond .lt 14, 3) := by decide +kernel
theorem dX12_isIn_6 : decode cX12_isIn 6 = .ok (.lload_n 0, 1) := by decide +kernel
theorem dX12_isIn_7 : decode cX12_isIn 7 = .ok (.lload 4, 2) := by decide +kernel
theorem dX12_isIn_9 : decode cX12_isIn 9 = .ok (.lcmp, 1) := by decide +kernel
theorem dX12_isIn_10 : decode cX12_isIn 10 = .ok (.ifCond .gt 7, 3) := by decide +kernel
theorem dX12_isIn_13 : decode cX12_isIn 13 = .ok (.iconst 1, 1) := by decide +kernel
theorem dX12_isIn_14 : decode cX12_isIn 14 = .ok (.goto 4, 3) := by decide +kernel
theorem dX12_isIn_17 : decode cX12_isIn 17 = .ok (.iconst 0, 1) := by decide +kernel
theorem dX12_isIn_18 : decode cX12_isIn 18 = .ok (.ireturn, 1) := by decide +kernel
theorem dX12_isRefused_0 : decode cX12_isRefused 0 = .ok (.aload_n 0, 1) := by decide +kernel
theorem dX12_isRefused_1 : decode cX12_isRefused 1 = .ok (.getfield 17, 3) := by decide +kernel
theorem dX12_isRefused_4 : decode cX12_isRefused 4 = .ok (.iload_n 1, 1) := by decide +kernel
theorem dX12_isRefused_5 : decode cX12_isRefused 5 = .ok (.dup2, 1) := by decide +kernel
theorem dX12_isRefused_6 : decode cX12_isRefused 6 = .ok (.iaload, 1) := by decide +kernel
theorem dX12_isRefused_7 : decode cX12_isRefused 7 = .ok (.iconst 1, 1) := by decide +kernel
theorem dX12_isRefused_8 : decode cX12_isRefused 8 = .ok (.iadd, 1) := by decide +kernel
theorem dX12_isRefused_9 : decode cX12_isRefused 9 = .ok (.iastore, 1) := by decide +kernel
theorem dX12_isRefused_10 : decode cX12_isRefused 10 = .ok (.iconst 0, 1) := by decide +kernel
theorem dX12_isRefused_11 : decode cX12_isRefused 11 = .ok (.ireturn, 1) := by decide +kernel
set_option maxRecDepth 20000 in
theorem ggX12_end_X12_isRefused : GoodIn wsX12_end wsX12_isRefused := goodIn_r _ [6, 7, 8, 9, 10, 11, 12, 13, 14, 15, 16, 17, 18, 19, 20, 21, 22, 23, 24, 25, 26, 27, 28, 29, 30, 31, 32, 33, 34, 35, 36, 37, 38, 39, 40, 41, 42, 43, 44, 45, 46, 47, 48, 49, 50, 51, 52, 53, 54, 55, 56, 57, 58, 59, 60, 61, 62, 63, 64, 65, 66, 67, 68, 69, 70, 71, 72, 73, 74] (by decide +kernel) (by decide +kernel)
set_option maxRecDepth 20000 in
theorem gX12_end_X12_isRefused : GoodIn wsX12_end (wsV RX12 224 RX12 yX12_isRefused wsX12_isRefused) := goodIn_app (goodIn_of _ (by decide +kernel)) ggX12_end_X12_isRefused
theorem dX12_end_0 : decode cX12_end 0 = .ok (.iload_n 1, 1) := by decide +kernel
theorem dX12_end_1 : decode cX12_end 1 = .ok (.ifCond .lt 11, 3) := by decide +kernel
theorem dX12_end_4 : decode cX12_end 4 = .ok (.iload_n 1, 1) := by decide +kernel
theorem dX12_end_5 : decode cX12_end 5 = .ok (.aload_n 0, 1) := by decide +kernel
theorem dX12_end_6 : decode cX12_end 6 = .ok (.getfield 13, 3) := by decide +kernel
theorem dX12_end_9 : decode cX12_end 9 = .ok (.if_icmp .le 9, 3) := by decide +kernel
theorem dX12_end_12 : decode cX12_end 12 = .ok (.aload_n 0, 1) := by decide +kernel
theorem dX12_end_13 : decode cX12_end 13 = .ok (.iconst 0, 1) := by decide +kernel
theorem dX12_end_14 : decode cX12_end 14 = .ok (.invokevirtual 224, 3) := by decide +kernel
theorem dX12_end_17 : decode cX12_end 17 = .ok (.ireturn, 1) := by decide +kernel
theorem dX12_end_18 : decode cX12_end 18 = .ok (.aload_n 0, 1) := by decide +kernel
theorem dX12_end_19 : decode cX12_end 19 = .ok (.iload_n 1, 1) := by decide +kernel
theorem dX12_end_20 : decode cX12_end 20 = .ok (.putfield 13, 3) := by decide +kernel
theorem dX12_end_23 : decode cX12_end 23 = .ok (.iconst 1, 1) := by decide +kernel
theorem dX12_end_24 : decode cX12_end 24 = .ok (.ireturn, 1) := by decide +kernel
set_option maxRecDepth 20000 in
theorem ggX12_isNumber_X12_isIn : GoodIn wsX12_isNumber wsX12_isIn := goodIn_r _ [5] (by decide +kernel) (by decide +kernel)
set_option maxRecDepth 20000 in
theorem gX12_isNumber_X12_isIn : GoodIn wsX12_isNumber (va_wsS RX12 263 yX12_isIn wsX12_isIn) := goodIn_app (goodIn_of _ (by decide +kernel)) ggX12_isNumber_X12_isIn
theorem dX12_isNumber_0 : decode cX12_isNumber 0 = .ok (.iload_n 1, 1) := by decide +kernel
theorem dX12_isNumber_1 : decode cX12_isNumber 1 = .ok (.i2l, 1) := by decide +kernel
theorem dX12_isNumber_2 : decode cX12_isNumber 2 = .ok (.lconst 0, 1) := by decide +kernel
theorem dX12_isNumber_3 : decode cX12_isNumber 3 = .ok (.aload_n 0, 1) := by decide +kernel
theorem dX12_isNumber_4 : decode cX12_isNumber 4 = .ok (.getfield 62, 3) := by decide +kernel
theorem dX12_isNumber_7 : decode cX12_isNumber 7 = .ok (.iconst 0, 1) := by decide +kernel
theorem dX12_isNumber_8 : decode cX12_isNumber 8 = .ok (.iaload, 1) := by decide +kernel
theorem dX12_isNumber_9 : decode cX12_isNumber 9 = .ok (.i2l, 1) := by decide +kernel
theorem dX12_isNumber_10 : decode cX12_isNumber 10 = .ok (.lconst 1, 1) := by decide +kernel
theorem dX12_isNumber_11 : decode cX12_isNumber 11 = .ok (.lsub, 1) := by decide +kernel
theorem dX12_isNumber_12 : decode cX12_isNumber 12 = .ok (.invokestatic 263, 3) := by decide +kernel
theorem dX12_isNumber_15 : decode cX12_isNumber 15 = .ok (.ireturn, 1) := by decide +kernel
set_option maxRecDepth 20000 in
theorem ggX12_uses_X12_isNumber : GoodIn wsX12_uses wsX12_isNumber := goodIn_r _ [8, 1, 9, 10, 7, 11, 12, 13, 14, 15, 16, 17, 18, 19, 20, 21, 22, 23, 24, 25, 26, 27, 28, 29, 30, 31, 32, 33, 34, 35, 36, 37, 38, 39, 40, 41, 42, 43, 44, 45, 46, 47, 48, 49, 50, 51, 52, 53, 54, 55, 56, 57, 58, 59, 60, 61, 62, 63, 64, 65, 66, 67, 68, 69, 70, 71, 72, 73, 74, 75, 76, 77, 78] (by decide +kernel) (by decide +kernel)
set_option maxRecDepth 20000 in
theorem gX12_uses_X12_isNumber : GoodIn wsX12_uses (wsV RX12 373 RX12 yX12_isNumber wsX12_isNumber) := goodIn_app (goodIn_of _ (by decide +kernel)) ggX12_uses_X12_isNumber
theorem dX12_uses_0 : decode cX12_uses 0 = .ok (.aload_n 0, 1) := by decide +kernel
theorem dX12_uses_1 : decode cX12_uses 1 = .ok (.iload_n 1, 1) := by decide +kernel
theorem dX12_uses_2 : decode cX12_uses 2 = .ok (.invokevirtual 373, 3) := by decide +kernel
theorem dX12_uses_5 : decode cX12_uses 5 = .ok (.ifCond .ne 5, 3) := by decide +kernel
theorem dX12_uses_8 : decode cX12_uses 8 = .ok (.iconst (-1), 1) := by decide +kernel
set_option maxRecDepth 20000 in
theorem ggX12_status_X12_isIn : GoodIn wsX12_status wsX12_isIn := goodIn_r _ [6] (by decide +kernel) (by decide +kernel)
set_option maxRecDepth 20000 in
theorem gX12_status_X12_isIn : GoodIn wsX12_status (va_wsS RX12 263 yX12_isIn wsX12_isIn) := goodIn_app (goodIn_of _ (by decide +kernel)) ggX12_status_X12_isIn
theorem dX12_status_0 : decode cX12_status 0 = .ok (.iload_n 1, 1) := by decide +kernel
theorem dX12_status_1 : decode cX12_status 1 = .ok (.i2l, 1) := by decide +kernel
theorem dX12_status_2 : decode cX12_status 2 = .ok (.lconst 0, 1) := by decide +kernel
theorem dX12_status_3 : decode cX12_status 3 = .ok (.ldc2_w 550, 3) := by decide +kernel
theorem dX12_status_6 : decode cX12_status 6 = .ok (.invokestatic 263, 3) := by decide +kernel
theorem dX12_status_9 : decode cX12_status 9 = .ok (.ifCond .eq 12, 3) := by decide +kernel
theorem dX12_status_12 : decode cX12_status 12 = .ok (.aload_n 0, 1) := by decide +kernel
theorem dX12_status_13 : decode cX12_status 13 = .ok (.getfield 17, 3) := by decide +kernel
theorem dX12_status_16 : decode cX12_status 16 = .ok (.iload_n 1, 1) := by decide +kernel
theorem dX12_status_17 : decode cX12_status 17 = .ok (.iaload, 1) := by decide +kernel
theorem dX12_status_18 : decode cX12_status 18 = .ok (.goto 4, 3) := by decide +kernel
theorem dX12_status_21 : decode cX12_status 21 = .ok (.iconst (-1), 1) := by decide +kernel
theorem dX12_status_22 : decode cX12_status 22 = .ok (.ireturn, 1) := by decide +kernel
abbrev vwCl : List vw_C := [(RX0, TX0, 5), (RX1, TX1, 14), (RX2, TX2, 6), (RX3, TX3, 16), (RX4, TX4, 10), (RX5, TX5, 4), (RX6, TX6, 3), (RX7, TX7, 3), (RX8, TX8, 2), (RX9, TX9, 9), (RX10, TX10, 8), (RX11, TX11, 16), (RX12, TX12, 67)]
