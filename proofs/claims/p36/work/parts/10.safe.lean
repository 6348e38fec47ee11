theorem zn_X9_hasFormat_X9 : ∀ w ∈ wsX90, w ∈ wsX9_hasFormat := fun _ h => List.mem_cons_of_mem _ (List.mem_append_right _ h)
theorem zw_X9_hasFormat_1 : Cond.fieldLink RX9 45 "ShortEnough$Task" "formats" "I" ∈ wsX9_hasFormat := by decide +kernel
theorem zn_X9_hasNumber_X9 : ∀ w ∈ wsX90, w ∈ wsX9_hasNumber := fun _ h => List.mem_cons_of_mem _ (List.mem_append_left _ (List.mem_append_right _ h))
theorem zw_X9_hasNumber_3 : Cond.fieldLink RX9 27 "ShortEnough$Task" "numbers" "LShortEnough$Numbers;" ∈ wsX9_hasNumber := by decide +kernel
theorem zn_X9_hasNumber_X4 : ∀ w ∈ wsX40, w ∈ wsX9_hasNumber := fun _ h => List.mem_cons_of_mem _ (List.mem_append_right _ h)
theorem zw_X9_hasNumber_5 : Cond.fieldLink RX9 52 "ShortEnough$Numbers" "count" "I" ∈ wsX9_hasNumber := by decide +kernel
theorem zn_X4_madeOf_X4 : ∀ w ∈ wsX40, w ∈ wsX4_madeOf := fun _ h => List.mem_cons_of_mem _ (List.mem_append_right _ h)
theorem zw_X4_madeOf_7 : Cond.fieldLink RX4 36 "ShortEnough$Numbers" "count" "I" ∈ wsX4_madeOf := by decide +kernel
theorem zw_X4_madeOf_8 : Cond.fieldLink RX4 30 "ShortEnough$Numbers" "made" "[I" ∈ wsX4_madeOf := by decide +kernel
theorem zn_X4_amountOf_X4 : ∀ w ∈ wsX40, w ∈ wsX4_amountOf := fun _ h => List.mem_cons_of_mem _ (List.mem_append_right _ h)
theorem zw_X4_amountOf_10 : Cond.fieldLink RX4 36 "ShortEnough$Numbers" "count" "I" ∈ wsX4_amountOf := by decide +kernel
theorem zw_X4_amountOf_11 : Cond.fieldLink RX4 33 "ShortEnough$Numbers" "amount" "[I" ∈ wsX4_amountOf := by decide +kernel
theorem zn_X4_countAnswers_X4 : ∀ w ∈ wsX40, w ∈ wsX4_countAnswers := fun _ h => List.mem_cons_of_mem _ (List.mem_append_right _ h)
theorem zw_X4_countAnswers_13 : Cond.fieldLink RX4 36 "ShortEnough$Numbers" "count" "I" ∈ wsX4_countAnswers := by decide +kernel
theorem zw_X4_countAnswers_14 : Cond.fieldLink RX4 21 "ShortEnough$Numbers" "allowed" "[I" ∈ wsX4_countAnswers := by decide +kernel
theorem zn_X4_find_X4 : ∀ w ∈ wsX40, w ∈ wsX4_find := fun _ h => List.mem_cons_of_mem _ (List.mem_append_right _ h)
theorem zw_X4_find_16 : Cond.fieldLink RX4 36 "ShortEnough$Numbers" "count" "I" ∈ wsX4_find := by decide +kernel
theorem zw_X4_find_17 : Cond.fieldLink RX4 9 "ShortEnough$Numbers" "name" "[I" ∈ wsX4_find := by decide +kernel
theorem zn_X9_findFormat_X9 : ∀ w ∈ wsX90, w ∈ wsX9_findFormat := fun _ h => List.mem_cons_of_mem _ (List.mem_append_right _ h)
theorem zw_X9_findFormat_19 : Cond.fieldLink RX9 45 "ShortEnough$Task" "formats" "I" ∈ wsX9_findFormat := by decide +kernel
theorem zw_X9_findFormat_20 : Cond.fieldLink RX9 9 "ShortEnough$Task" "formatName" "[I" ∈ wsX9_findFormat := by decide +kernel
theorem zn_X2_isFree_X2 : ∀ w ∈ wsX20, w ∈ wsX2_isFree := fun _ h => List.mem_cons_of_mem _ (List.mem_append_right _ h)
theorem zw_X2_isFree_22 : Cond.fieldLink RX2 21 "ShortEnough$Groups" "count" "I" ∈ wsX2_isFree := by decide +kernel
theorem zw_X2_isFree_23 : Cond.fieldLink RX2 15 "ShortEnough$Groups" "fixedAs" "[I" ∈ wsX2_isFree := by decide +kernel
theorem zn_X9_formatOf_X9 : ∀ w ∈ wsX90, w ∈ wsX9_formatOf := fun _ h => List.mem_cons_of_mem _ (List.mem_append_left _ (List.mem_append_left _ (List.mem_append_right _ h)))
theorem zw_X9_formatOf_25 : Cond.fieldLink RX9 27 "ShortEnough$Task" "numbers" "LShortEnough$Numbers;" ∈ wsX9_formatOf := by decide +kernel
theorem zn_X9_formatOf_X4 : ∀ w ∈ wsX40, w ∈ wsX9_formatOf := fun _ h => List.mem_cons_of_mem _ (List.mem_append_left _ (List.mem_append_right _ h))
theorem zw_X9_formatOf_27 : Cond.fieldLink RX9 52 "ShortEnough$Numbers" "count" "I" ∈ wsX9_formatOf := by decide +kernel
theorem zw_X9_formatOf_28 : Cond.fieldLink RX9 34 "ShortEnough$Task" "groups" "LShortEnough$Groups;" ∈ wsX9_formatOf := by decide +kernel
theorem zn_X9_formatOf_X2 : ∀ w ∈ wsX20, w ∈ wsX9_formatOf := fun _ h => List.mem_cons_of_mem _ (List.mem_append_right _ h)
theorem zw_X9_formatOf_30 : Cond.fieldLink RX9 80 "ShortEnough$Groups" "of" "[I" ∈ wsX9_formatOf := by decide +kernel
theorem zn_X9_isAnswer_X9 : ∀ w ∈ wsX90, w ∈ wsX9_isAnswer := fun _ h => List.mem_cons_of_mem _ (List.mem_append_left _ (List.mem_append_right _ h))
theorem zw_X9_isAnswer_32 : Cond.fieldLink RX9 27 "ShortEnough$Task" "numbers" "LShortEnough$Numbers;" ∈ wsX9_isAnswer := by decide +kernel
theorem zn_X9_isAnswer_X4 : ∀ w ∈ wsX40, w ∈ wsX9_isAnswer := fun _ h => List.mem_cons_of_mem _ (List.mem_append_right _ h)
theorem zw_X9_isAnswer_34 : Cond.fieldLink RX9 74 "ShortEnough$Numbers" "allowed" "[I" ∈ wsX9_isAnswer := by decide +kernel
theorem zn_X9_isInput_X9 : ∀ w ∈ wsX90, w ∈ wsX9_isInput := fun _ h => List.mem_cons_of_mem _ (List.mem_append_left _ (List.mem_append_right _ h))
theorem zw_X9_isInput_36 : Cond.fieldLink RX9 27 "ShortEnough$Task" "numbers" "LShortEnough$Numbers;" ∈ wsX9_isInput := by decide +kernel
theorem zn_X9_isInput_X4 : ∀ w ∈ wsX40, w ∈ wsX9_isInput := fun _ h => List.mem_cons_of_mem _ (List.mem_append_right _ h)
theorem zw_X9_isInput_38 : Cond.fieldLink RX9 77 "ShortEnough$Numbers" "op" "[I" ∈ wsX9_isInput := by decide +kernel
theorem zn_X9_isFree_X9 : ∀ w ∈ wsX90, w ∈ wsX9_isFree := fun _ h => List.mem_cons_of_mem _ (List.mem_append_left _ (List.mem_append_left _ (List.mem_append_right _ h)))
theorem zw_X9_isFree_40 : Cond.fieldLink RX9 34 "ShortEnough$Task" "groups" "LShortEnough$Groups;" ∈ wsX9_isFree := by decide +kernel
theorem zn_X9_isFree_X2 : ∀ w ∈ wsX20, w ∈ wsX9_isFree := fun _ h => List.mem_cons_of_mem _ (List.mem_append_left _ (List.mem_append_right _ h))
theorem zw_X9_isFree_42 : Cond.fieldLink RX9 80 "ShortEnough$Groups" "of" "[I" ∈ wsX9_isFree := by decide +kernel
theorem zn_X9_stepOf_X9 : ∀ w ∈ wsX90, w ∈ wsX9_stepOf := fun _ h => List.mem_cons_of_mem _ (List.mem_append_right _ h)
theorem zw_X9_stepOf_44 : Cond.fieldLink RX9 45 "ShortEnough$Task" "formats" "I" ∈ wsX9_stepOf := by decide +kernel
theorem zw_X9_stepOf_45 : Cond.fieldLink RX9 15 "ShortEnough$Task" "step" "[I" ∈ wsX9_stepOf := by decide +kernel
theorem zn_X9_mostOf_X9 : ∀ w ∈ wsX90, w ∈ wsX9_mostOf := fun _ h => List.mem_cons_of_mem _ (List.mem_append_right _ h)
theorem zw_X9_mostOf_47 : Cond.fieldLink RX9 45 "ShortEnough$Task" "formats" "I" ∈ wsX9_mostOf := by decide +kernel
theorem zw_X9_mostOf_48 : Cond.fieldLink RX9 18 "ShortEnough$Task" "most" "[I" ∈ wsX9_mostOf := by decide +kernel
theorem zn_X9_finestFormat_X9 : ∀ w ∈ wsX90, w ∈ wsX9_finestFormat := fun _ h => List.mem_cons_of_mem _ (List.mem_append_right _ h)
theorem zw_X9_finestFormat_50 : Cond.fieldLink RX9 45 "ShortEnough$Task" "formats" "I" ∈ wsX9_finestFormat := by decide +kernel
theorem zw_X9_finestFormat_51 : Cond.fieldLink RX9 15 "ShortEnough$Task" "step" "[I" ∈ wsX9_finestFormat := by decide +kernel
theorem zn_X9_hasChoice_X9 : ∀ w ∈ wsX90, w ∈ wsX9_hasChoice := fun _ h => List.mem_cons_of_mem _ (List.mem_append_left _ (List.mem_append_left _ (List.mem_append_right _ h)))
theorem zw_X9_hasChoice_53 : Cond.fieldLink RX9 27 "ShortEnough$Task" "numbers" "LShortEnough$Numbers;" ∈ wsX9_hasChoice := by decide +kernel
theorem zn_X9_hasChoice_X4 : ∀ w ∈ wsX40, w ∈ wsX9_hasChoice := fun _ h => List.mem_cons_of_mem _ (List.mem_append_left _ (List.mem_append_right _ h))
theorem zw_X9_hasChoice_55 : Cond.fieldLink RX9 52 "ShortEnough$Numbers" "count" "I" ∈ wsX9_hasChoice := by decide +kernel
theorem zw_X9_hasChoice_56 : Cond.fieldLink RX9 34 "ShortEnough$Task" "groups" "LShortEnough$Groups;" ∈ wsX9_hasChoice := by decide +kernel
theorem zn_X9_hasChoice_X2 : ∀ w ∈ wsX20, w ∈ wsX9_hasChoice := fun _ h => List.mem_cons_of_mem _ (List.mem_append_right _ h)
theorem zw_X9_hasChoice_58 : Cond.fieldLink RX9 66 "ShortEnough$Groups" "clash" "Z" ∈ wsX9_hasChoice := by decide +kernel
theorem zn_X2_leaderOf_X2 : ∀ w ∈ wsX20, w ∈ wsX2_leaderOf := fun _ h => List.mem_cons_of_mem _ (List.mem_append_right _ h)
theorem zw_X2_leaderOf_60 : Cond.fieldLink RX2 21 "ShortEnough$Groups" "count" "I" ∈ wsX2_leaderOf := by decide +kernel
theorem zw_X2_leaderOf_61 : Cond.fieldLink RX2 18 "ShortEnough$Groups" "leader" "[I" ∈ wsX2_leaderOf := by decide +kernel
theorem zn_X2_fillFree_X2 : ∀ w ∈ wsX20, w ∈ wsX2_fillFree := fun _ h => List.mem_cons_of_mem _ (List.mem_append_right _ h)
theorem zw_X2_fillFree_63 : Cond.fieldLink RX2 21 "ShortEnough$Groups" "count" "I" ∈ wsX2_fillFree := by decide +kernel
theorem zw_X2_fillFree_64 : Cond.fieldLink RX2 15 "ShortEnough$Groups" "fixedAs" "[I" ∈ wsX2_fillFree := by decide +kernel
theorem zn_X4_fix_X4 : ∀ w ∈ wsX40, w ∈ wsX4_fix := fun _ h => List.mem_cons_of_mem _ (List.mem_append_right _ h)
theorem zw_X4_fix_66 : Cond.fieldLink RX4 36 "ShortEnough$Numbers" "count" "I" ∈ wsX4_fix := by decide +kernel
theorem zw_X4_fix_67 : Cond.fieldLink RX4 18 "ShortEnough$Numbers" "fixedAs" "[I" ∈ wsX4_fix := by decide +kernel
theorem zn_X4_allow_X4 : ∀ w ∈ wsX40, w ∈ wsX4_allow := fun _ h => List.mem_cons_of_mem _ (List.mem_append_right _ h)
theorem zw_X4_allow_69 : Cond.fieldLink RX4 36 "ShortEnough$Numbers" "count" "I" ∈ wsX4_allow := by decide +kernel
theorem zw_X4_allow_70 : Cond.fieldLink RX4 21 "ShortEnough$Numbers" "allowed" "[I" ∈ wsX4_allow := by decide +kernel
theorem zn_X4_join_X4 : ∀ w ∈ wsX40, w ∈ wsX4_join := fun _ h => List.mem_cons_of_mem _ (List.mem_append_right _ h)
theorem zw_X4_join_72 : Cond.fieldLink RX4 36 "ShortEnough$Numbers" "count" "I" ∈ wsX4_join := by decide +kernel
theorem zw_X4_join_73 : Cond.fieldLink RX4 27 "ShortEnough$Numbers" "joined" "[I" ∈ wsX4_join := by decide +kernel
theorem zn_X4_prepare_X4 : ∀ w ∈ wsX40, w ∈ wsX4_prepare := fun _ h => List.mem_cons_of_mem _ (List.mem_append_right _ h)
theorem zw_X4_prepare_75 : Cond.fieldLink RX4 36 "ShortEnough$Numbers" "count" "I" ∈ wsX4_prepare := by decide +kernel
theorem zw_X4_prepare_76 : Cond.fieldLink RX4 30 "ShortEnough$Numbers" "made" "[I" ∈ wsX4_prepare := by decide +kernel
theorem zw_X4_prepare_77 : Cond.fieldLink RX4 33 "ShortEnough$Numbers" "amount" "[I" ∈ wsX4_prepare := by decide +kernel
theorem zn_X4_letsOf_X4 : ∀ w ∈ wsX40, w ∈ wsX4_letsOf := fun _ h => List.mem_cons_of_mem _ (List.mem_append_right _ h)
theorem zw_X4_letsOf_79 : Cond.fieldLink RX4 30 "ShortEnough$Numbers" "made" "[I" ∈ wsX4_letsOf := by decide +kernel
theorem zw_X4_letsOf_80 : Cond.fieldLink RX4 36 "ShortEnough$Numbers" "count" "I" ∈ wsX4_letsOf := by decide +kernel
theorem zw_X4_letsOf_81 : Cond.fieldLink RX4 24 "ShortEnough$Numbers" "lets" "[I" ∈ wsX4_letsOf := by decide +kernel
theorem zn_X4_add_X4 : ∀ w ∈ wsX40, w ∈ wsX4_add := fun _ h => List.mem_cons_of_mem _ (List.mem_append_right _ h)
theorem zw_X4_add_83 : Cond.fieldLink RX4 36 "ShortEnough$Numbers" "count" "I" ∈ wsX4_add := by decide +kernel
theorem zw_X4_add_84 : Cond.fieldLink RX4 9 "ShortEnough$Numbers" "name" "[I" ∈ wsX4_add := by decide +kernel
theorem zw_X4_add_85 : Cond.fieldLink RX4 15 "ShortEnough$Numbers" "op" "[I" ∈ wsX4_add := by decide +kernel
theorem zw_X4_add_86 : Cond.fieldLink RX4 18 "ShortEnough$Numbers" "fixedAs" "[I" ∈ wsX4_add := by decide +kernel
theorem zw_X4_add_87 : Cond.fieldLink RX4 21 "ShortEnough$Numbers" "allowed" "[I" ∈ wsX4_add := by decide +kernel
theorem zw_X4_add_88 : Cond.fieldLink RX4 27 "ShortEnough$Numbers" "joined" "[I" ∈ wsX4_add := by decide +kernel
theorem zw_X4_add_89 : Cond.fieldLink RX4 24 "ShortEnough$Numbers" "lets" "[I" ∈ wsX4_add := by decide +kernel
theorem zw_X4_add_90 : Cond.methodLink RX4 44 Lib.Math.max.name ∈ wsX4_add := by decide +kernel
theorem zw_X4_add_91 : Cond.static Lib.Math.max.name ∈ wsX4_add := by decide +kernel
theorem zw_X4_add_92 : Cond.initialized "java/lang/Math" ∈ wsX4_add := by decide +kernel
theorem zw_X4_add_93 : Cond.code Lib.Math.max.name Lib.Math.max.code 2 (some .int) ∈ wsX4_add := by decide +kernel
theorem zw_X4_add_94 : Cond.fieldLink RX4 50 "ShortEnough$Numbers" "inputs" "I" ∈ wsX4_add := by decide +kernel
theorem zn_X4_madeFrom_X4 : ∀ w ∈ wsX40, w ∈ wsX4_madeFrom := fun _ h => List.mem_cons_of_mem _ (List.mem_append_right _ h)
theorem zw_X4_madeFrom_96 : Cond.fieldLink RX4 36 "ShortEnough$Numbers" "count" "I" ∈ wsX4_madeFrom := by decide +kernel
theorem zn_X9_castsOf_X9 : ∀ w ∈ wsX90, w ∈ wsX9_castsOf := fun _ h => List.mem_cons_of_mem _ (List.mem_append_left _ (List.mem_append_left _ (List.mem_append_right _ h)))
theorem zw_X9_castsOf_98 : Cond.fieldLink RX9 27 "ShortEnough$Task" "numbers" "LShortEnough$Numbers;" ∈ wsX9_castsOf := by decide +kernel
theorem zn_X9_castsOf_X4 : ∀ w ∈ wsX40, w ∈ wsX9_castsOf := fun _ h => List.mem_cons_of_mem _ (List.mem_append_left _ (List.mem_append_right _ h))
theorem zw_X9_castsOf_100 : Cond.fieldLink RX9 52 "ShortEnough$Numbers" "count" "I" ∈ wsX9_castsOf := by decide +kernel
theorem zn_X9_priceOf_X9 : ∀ w ∈ wsX90, w ∈ wsX9_priceOf := fun _ h => List.mem_cons_of_mem _ (List.mem_append_left _ (List.mem_append_left _ (List.mem_append_right _ h)))
theorem zw_X9_priceOf_102 : Cond.fieldLink RX9 49 "ShortEnough$Task" "castPrice" "I" ∈ wsX9_priceOf := by decide +kernel
theorem zw_X9_priceOf_103 : Cond.fieldLink RX9 27 "ShortEnough$Task" "numbers" "LShortEnough$Numbers;" ∈ wsX9_priceOf := by decide +kernel
theorem zn_X9_priceOf_X4 : ∀ w ∈ wsX40, w ∈ wsX9_priceOf := fun _ h => List.mem_cons_of_mem _ (List.mem_append_left _ (List.mem_append_right _ h))
theorem zw_X9_priceOf_105 : Cond.fieldLink RX9 52 "ShortEnough$Numbers" "count" "I" ∈ wsX9_priceOf := by decide +kernel
theorem zw_X9_priceOf_106 : Cond.fieldLink RX9 21 "ShortEnough$Task" "price" "[I" ∈ wsX9_priceOf := by decide +kernel
theorem zn_X9_addFormat_X9 : ∀ w ∈ wsX90, w ∈ wsX9_addFormat := fun _ h => List.mem_cons_of_mem _ (List.mem_append_right _ h)
theorem zw_X9_addFormat_108 : Cond.fieldLink RX9 45 "ShortEnough$Task" "formats" "I" ∈ wsX9_addFormat := by decide +kernel
theorem zw_X9_addFormat_109 : Cond.fieldLink RX9 9 "ShortEnough$Task" "formatName" "[I" ∈ wsX9_addFormat := by decide +kernel
theorem zw_X9_addFormat_110 : Cond.fieldLink RX9 15 "ShortEnough$Task" "step" "[I" ∈ wsX9_addFormat := by decide +kernel
theorem zw_X9_addFormat_111 : Cond.fieldLink RX9 18 "ShortEnough$Task" "most" "[I" ∈ wsX9_addFormat := by decide +kernel
theorem zw_X9_addFormat_112 : Cond.fieldLink RX9 21 "ShortEnough$Task" "price" "[I" ∈ wsX9_addFormat := by decide +kernel
theorem zn_X9_clear_X9 : ∀ w ∈ wsX90, w ∈ wsX9_clear := fun _ h => List.mem_cons_of_mem _ (List.mem_append_left _ (List.mem_append_right _ h))
theorem zw_X9_clear_114 : Cond.fieldLink RX9 45 "ShortEnough$Task" "formats" "I" ∈ wsX9_clear := by decide +kernel
theorem zw_X9_clear_115 : Cond.fieldLink RX9 49 "ShortEnough$Task" "castPrice" "I" ∈ wsX9_clear := by decide +kernel
theorem zw_X9_clear_116 : Cond.fieldLink RX9 27 "ShortEnough$Task" "numbers" "LShortEnough$Numbers;" ∈ wsX9_clear := by decide +kernel
theorem zn_X9_clear_X4 : ∀ w ∈ wsX40, w ∈ wsX9_clear := fun _ h => List.mem_cons_of_mem _ (List.mem_append_right _ h)
theorem zw_X9_clear_118 : Cond.fieldLink RX9 52 "ShortEnough$Numbers" "count" "I" ∈ wsX9_clear := by decide +kernel
theorem zw_X9_clear_119 : Cond.fieldLink RX9 55 "ShortEnough$Numbers" "inputs" "I" ∈ wsX9_clear := by decide +kernel
theorem zn_X2_earlierGroup_X4 : ∀ w ∈ wsX40, w ∈ wsX2_earlierGroup := fun _ h => List.mem_cons_of_mem _ (List.mem_append_left _ (List.mem_append_right _ h))
theorem zw_X2_earlierGroup_121 : Cond.fieldLink RX2 44 "ShortEnough$Numbers" "joined" "[I" ∈ wsX2_earlierGroup := by decide +kernel
theorem zn_X2_earlierGroup_X2 : ∀ w ∈ wsX20, w ∈ wsX2_earlierGroup := fun _ h => List.mem_cons_of_mem _ (List.mem_append_right _ h)
theorem zw_X2_earlierGroup_123 : Cond.fieldLink RX2 9 "ShortEnough$Groups" "of" "[I" ∈ wsX2_earlierGroup := by decide +kernel
theorem zn_X2_fix_X2 : ∀ w ∈ wsX20, w ∈ wsX2_fix := fun _ h => List.mem_cons_of_mem _ (List.mem_append_right _ h)
theorem zw_X2_fix_125 : Cond.fieldLink RX2 15 "ShortEnough$Groups" "fixedAs" "[I" ∈ wsX2_fix := by decide +kernel
theorem zw_X2_fix_126 : Cond.fieldLink RX2 25 "ShortEnough$Groups" "clash" "Z" ∈ wsX2_fix := by decide +kernel
theorem zn_X2_gather_X2 : ∀ w ∈ wsX20, w ∈ wsX2_gather := fun _ h => List.mem_cons_of_mem _ (List.mem_append_left _ (List.mem_append_right _ h))
theorem zw_X2_gather_128 : Cond.fieldLink RX2 21 "ShortEnough$Groups" "count" "I" ∈ wsX2_gather := by decide +kernel
theorem zw_X2_gather_129 : Cond.fieldLink RX2 25 "ShortEnough$Groups" "clash" "Z" ∈ wsX2_gather := by decide +kernel
theorem zn_X2_gather_X4 : ∀ w ∈ wsX40, w ∈ wsX2_gather := fun _ h => List.mem_cons_of_mem _ (List.mem_append_right _ h)
theorem zw_X2_gather_131 : Cond.fieldLink RX2 29 "ShortEnough$Numbers" "count" "I" ∈ wsX2_gather := by decide +kernel
theorem zw_X2_gather_132 : Cond.fieldLink RX2 41 "ShortEnough$Groups" "free" "I" ∈ wsX2_gather := by decide +kernel
theorem zw_X2_gather_133 : Cond.fieldLink RX2 9 "ShortEnough$Groups" "of" "[I" ∈ wsX2_gather := by decide +kernel
theorem zw_X2_gather_134 : Cond.fieldLink RX2 18 "ShortEnough$Groups" "leader" "[I" ∈ wsX2_gather := by decide +kernel
theorem zw_X2_gather_135 : Cond.fieldLink RX2 15 "ShortEnough$Groups" "fixedAs" "[I" ∈ wsX2_gather := by decide +kernel
theorem zw_X2_gather_136 : Cond.fieldLink RX2 36 "ShortEnough$Numbers" "fixedAs" "[I" ∈ wsX2_gather := by decide +kernel
theorem zn_X11_refuse_X11 : ∀ w ∈ wsX110, w ∈ wsX11_refuse := fun _ h => List.mem_cons_of_mem _ (List.mem_append_right _ h)
theorem zw_X11_refuse_138 : Cond.fieldLink RX11 13 "ShortEnough" "refused" "[I" ∈ wsX11_refuse := by decide +kernel
theorem zn_X11_putBytes_X11 : ∀ w ∈ wsX110, w ∈ wsX11_putBytes := fun _ h => List.mem_cons_of_mem _ (List.mem_append_right _ h)
theorem zw_X11_putBytes_140 : Cond.fieldLink RX11 89 "ShortEnough" "tapeLength" "I" ∈ wsX11_putBytes := by decide +kernel
theorem zw_X11_putBytes_141 : Cond.fieldLink RX11 9 "ShortEnough" "tape" "[B" ∈ wsX11_putBytes := by decide +kernel
set_option maxHeartbeats 4000000 in
set_option maxRecDepth 100000 in
theorem zs_X9_hasFormat (l : Launch) (dC : Nat → ClassId) (dI : Nat → Nat → Nat) (h0 : Nat) (p1 : Int32) (v0_0 : Int32) (r0_1 : Nat) (r0_2 : Nat) (r0_3 : Nat) (r0_4 : Nat) (v0_5 : Int32) (r0_6 : Nat) (r0_7 : Nat) (r0_8 : Nat) (hq_v0_0 : (0 : Int) ≤ v0_0.toInt ∧ v0_0.toInt ≤ 4) (sz : Nat) : Met l yX9_hasFormat wsX9_hasFormat ({ frames := 0, cells := 0, slots := 0, locals := 0 }) (va_Pc [.ref h0, .int p1] (fun U => U.heap.size = sz ∧ va_P (dC, dI) vwCl [(h0, .inr (9, [.int v0_0, .ref r0_1, .ref r0_2, .ref r0_3, .ref r0_4, .int v0_5, .ref r0_6, .ref r0_7, .ref r0_8]))] U.heap ∧ va_K (dC, dI) vwCl [] U ∧ va_D (fun _ => True) [(h0, .inr (9, [.int v0_0, .ref r0_1, .ref r0_2, .ref r0_3, .ref r0_4, .int v0_5, .ref r0_6, .ref r0_7, .ref r0_8]))])) (va_Qi (fun (r : Int32) (u : zV) => ((0 : Int) ≤ r.toInt ∧ r.toInt ≤ 1) ∧ (r.toInt = 0 ∨ ((0 : Int) ≤ p1.toInt + (0) ∧ (p1.toInt : Int) ≤ v0_0.toInt + (-1))) ∧ True) (fun u t => va_P (dC, dI) vwCl [(h0, .inr (9, [.int v0_0, .ref r0_1, .ref r0_2, .ref r0_3, .ref r0_4, .int v0_5, .ref r0_6, .ref r0_7, .ref r0_8]))] t.heap ∧ va_K (dC, dI) vwCl [] t ∧ va_D (va_A [(h0, .inr (9, [.int v0_0, .ref r0_1, .ref r0_2, .ref r0_3, .ref r0_4, .int v0_5, .ref r0_6, .ref r0_7, .ref r0_8]))] sz) [(h0, .inr (9, [.int v0_0, .ref r0_1, .ref r0_2, .ref r0_3, .ref r0_4, .int v0_5, .ref r0_6, .ref r0_7, .ref r0_8]))]) (va_A [(h0, .inr (9, [.int v0_0, .ref r0_1, .ref r0_2, .ref r0_3, .ref r0_4, .int v0_5, .ref r0_6, .ref r0_7, .ref r0_8]))] sz)) 0 0 (va_A [(h0, .inr (9, [.int v0_0, .ref r0_1, .ref r0_2, .ref r0_3, .ref r0_4, .int v0_5, .ref r0_6, .ref r0_7, .ref r0_8]))] sz) := by
  refine Met.ofW (cc := cX9_hasFormat) (maxL := 2) (ret := (some .boolean)) (by decide +kernel) rfl ?_
  intro p e s m args below meth c s₁ B hml hv
  obtain ⟨rfl, hsz, hP, hK, hD0⟩ := hv
  have hx := B.exec
  have hb := B.bytes
  have hr := B.returns
  have hts := atoms_spec (ws := wsX9_hasFormat) B.pre
  have hown : s.vm.findClass RX9 = some m.cls := findClass_of_methodNamed B.named
  have hlocks := B.notSynchronized
  subst hsz
  have hD := hD0.self (sz := s.heap.size)
  generalize hAe : va_A [(h0, .inr (9, [.int v0_0, .ref r0_1, .ref r0_2, .ref r0_3, .ref r0_4, .int v0_5, .ref r0_6, .ref r0_7, .ref r0_8]))] s.heap.size = A at hD ⊢
  have hA : ∀ q : Nat, s.heap.size ≤ q → A q := fun q h => by rw [← hAe]; exact Or.inr h
  have hS : va_S A s.heap s.heap [] := va_S.rf
  have hP : va_P (dC, dI) vwCl [(h0, .inr (9, [.int v0_0, .ref r0_1, .ref r0_2, .ref r0_3, .ref r0_4, .int v0_5, .ref r0_6, .ref r0_7, .ref r0_8]))] s.heap := hP
  have hl := lv_entry ([.ref h0, .int p1]) (n := 2) (Nat.le_of_ble_eq_true rfl)
  rw [lg_entry_eq]
  generalize (lg_sl ([.ref h0, .int p1]) ++ List.replicate (2 - (lg_sl ([.ref h0, .int p1])).length) Slot.unset).toArray = ls at hl ⊢
  have hl : lv_has ls 2 [(0, .ref h0), (1, .int p1)] := hl
  generalize hQ : MQ below (va_Qi (fun (r : Int32) (u : zV) => ((0 : Int) ≤ r.toInt ∧ r.toInt ≤ 1) ∧ (r.toInt = 0 ∨ ((0 : Int) ≤ p1.toInt + (0) ∧ (p1.toInt : Int) ≤ v0_0.toInt + (-1))) ∧ True) (fun u t => va_P (dC, dI) vwCl [(h0, .inr (9, [.int v0_0, .ref r0_1, .ref r0_2, .ref r0_3, .ref r0_4, .int v0_5, .ref r0_6, .ref r0_7, .ref r0_8]))] t.heap ∧ va_K (dC, dI) vwCl [] t ∧ va_D A [(h0, .inr (9, [.int v0_0, .ref r0_1, .ref r0_2, .ref r0_3, .ref r0_4, .int v0_5, .ref r0_6, .ref r0_7, .ref r0_8]))]) A) ([.ref h0, .int p1] : List Value).toArray s 0 0 A = Q
  refine lv_iload_n hx hb dX9_hasFormat_0 rfl (lv_at hl 1 rfl) ?_
  refine lv_if_lt (tgt := 16) hx hb dX9_hasFormat_1 (by decide) (fun c_1 => ?_) (fun c_1 => ?_)
  · have oc_1 := zk_lt rfl (by decide +kernel : (0 : Int32).toInt = 0) c_1
    refine lv_iconst (v := 0) hx hb dX9_hasFormat_16 (by decide +kernel) ?_
    have hP9 := hP.sub (ws' := [(h0, .inr (9, [.int v0_0, .ref r0_1, .ref r0_2, .ref r0_3, .ref r0_4, .int v0_5, .ref r0_6, .ref r0_7, .ref r0_8]))]) [0] rfl
    have hD9 := hD.sub (ws' := [(h0, .inr (9, [.int v0_0, .ref r0_1, .ref r0_2, .ref r0_3, .ref r0_4, .int v0_5, .ref r0_6, .ref r0_7, .ref r0_8]))]) [0] (by decide) rfl
    have hK9 := hK.sub (tys' := []) [] rfl
    rw [← hQ]
    exact W.zret (v := 0) hx hb hr rfl (fun t ht hW => ⟨⟨0, ((fun k => ([] : List Int32).getD k 0), (fun k => ([] : List (Nat → Int32)).getD k (fun _ => 0)), (fun k => ([] : List (Nat → Int64)).getD k (fun _ => 0))), rfl, ⟨(show (0 : Int) ≤ (0 : Int32).toInt ∧ (0 : Int32).toInt ≤ 1 by decide +kernel), (show ((0 : Int32).toInt = 0 ∨ ((0 : Int) ≤ p1.toInt + (0) ∧ (p1.toInt : Int) ≤ v0_0.toInt + (-1))) by exact Or.inl (by decide +kernel)), trivial⟩, by rw [ht]; exact hP9, va_K.moved hW.alike hK9, hD9⟩, hS.F ht⟩) hS.2.2 dX9_hasFormat_17
  have oc_1 := zk_nlt rfl (by decide +kernel : (0 : Int32).toInt = 0) c_1
  refine lv_iload_n hx hb dX9_hasFormat_4 rfl (lv_at hl 1 rfl) ?_
  refine lv_aload_n hx hb dX9_hasFormat_5 rfl (lv_at hl 0 rfl) ?_
  refine va_get (D := (dC, dI)) (ci := 9) (v := .int v0_0) (C := RX9) (T := TX9) (N := 9) hx hb hts zn_X9_hasFormat_X9 hown hK hP 0 rfl rfl 0 (by decide) (hts (.fieldLink RX9 45 "ShortEnough$Task" "formats" "I") zw_X9_hasFormat_1) (fun _ h9 => h9) rfl dX9_hasFormat_6 ?_
  refine lv_icmp_ge (tgt := 16) hx hb dX9_hasFormat_9 (by decide) (fun c_2 => ?_) (fun c_2 => ?_)
  · have oc_2 := zk_le rfl rfl c_2
    refine lv_iconst (v := 0) hx hb dX9_hasFormat_16 (by decide +kernel) ?_
    have hP9 := hP.sub (ws' := [(h0, .inr (9, [.int v0_0, .ref r0_1, .ref r0_2, .ref r0_3, .ref r0_4, .int v0_5, .ref r0_6, .ref r0_7, .ref r0_8]))]) [0] rfl
    have hD9 := hD.sub (ws' := [(h0, .inr (9, [.int v0_0, .ref r0_1, .ref r0_2, .ref r0_3, .ref r0_4, .int v0_5, .ref r0_6, .ref r0_7, .ref r0_8]))]) [0] (by decide) rfl
    have hK9 := hK.sub (tys' := []) [] rfl
    rw [← hQ]
    exact W.zret (v := 0) hx hb hr rfl (fun t ht hW => ⟨⟨0, ((fun k => ([] : List Int32).getD k 0), (fun k => ([] : List (Nat → Int32)).getD k (fun _ => 0)), (fun k => ([] : List (Nat → Int64)).getD k (fun _ => 0))), rfl, ⟨(show (0 : Int) ≤ (0 : Int32).toInt ∧ (0 : Int32).toInt ≤ 1 by decide +kernel), (show ((0 : Int32).toInt = 0 ∨ ((0 : Int) ≤ p1.toInt + (0) ∧ (p1.toInt : Int) ≤ v0_0.toInt + (-1))) by exact Or.inl (by decide +kernel)), trivial⟩, by rw [ht]; exact hP9, va_K.moved hW.alike hK9, hD9⟩, hS.F ht⟩) hS.2.2 dX9_hasFormat_17
  have oc_2 := zk_nle rfl rfl c_2
  refine lv_iconst (v := 1) hx hb dX9_hasFormat_12 (by decide +kernel) ?_
  refine lv_goto (tgt := 17) hx hb dX9_hasFormat_13 (by decide) ?_
  have hP9 := hP.sub (ws' := [(h0, .inr (9, [.int v0_0, .ref r0_1, .ref r0_2, .ref r0_3, .ref r0_4, .int v0_5, .ref r0_6, .ref r0_7, .ref r0_8]))]) [0] rfl
  have hD9 := hD.sub (ws' := [(h0, .inr (9, [.int v0_0, .ref r0_1, .ref r0_2, .ref r0_3, .ref r0_4, .int v0_5, .ref r0_6, .ref r0_7, .ref r0_8]))]) [0] (by decide) rfl
  have hK9 := hK.sub (tys' := []) [] rfl
  rw [← hQ]
  exact W.zret (v := 1) hx hb hr rfl (fun t ht hW => ⟨⟨1, ((fun k => ([] : List Int32).getD k 0), (fun k => ([] : List (Nat → Int32)).getD k (fun _ => 0)), (fun k => ([] : List (Nat → Int64)).getD k (fun _ => 0))), rfl, ⟨(show (0 : Int) ≤ (1 : Int32).toInt ∧ (1 : Int32).toInt ≤ 1 by decide +kernel), (show ((1 : Int32).toInt = 0 ∨ ((0 : Int) ≤ p1.toInt + (0) ∧ (p1.toInt : Int) ≤ v0_0.toInt + (-1))) by right; omega), trivial⟩, by rw [ht]; exact hP9, va_K.moved hW.alike hK9, hD9⟩, hS.F ht⟩) hS.2.2 dX9_hasFormat_17
set_option maxHeartbeats 4000000 in
set_option maxRecDepth 100000 in
theorem zs_X9_hasNumber (l : Launch) (dC : Nat → ClassId) (dI : Nat → Nat → Nat) (h0 : Nat) (p1 : Int32) (v0_0 : Int32) (r0_1 : Nat) (r0_2 : Nat) (r0_3 : Nat) (r0_4 : Nat) (v0_5 : Int32) (r0_6 : Nat) (r0_7 : Nat) (r0_8 : Nat) (v1_0 : Int32) (v1_1 : Int32) (r1_2 : Nat) (r1_3 : Nat) (r1_4 : Nat) (r1_5 : Nat) (r1_6 : Nat) (r1_7 : Nat) (r1_8 : Nat) (r1_9 : Nat) (hq_v0_0 : (0 : Int) ≤ v0_0.toInt ∧ v0_0.toInt ≤ 4) (hq_v1_0 : (0 : Int) ≤ v1_0.toInt ∧ v1_0.toInt ≤ 14) (sz : Nat) : Met l yX9_hasNumber wsX9_hasNumber ({ frames := 0, cells := 0, slots := 0, locals := 0 }) (va_Pc [.ref h0, .int p1] (fun U => U.heap.size = sz ∧ va_P (dC, dI) vwCl [(h0, .inr (9, [.int v0_0, .ref r0_1, .ref r0_2, .ref r0_3, .ref r0_4, .int v0_5, .ref r0_6, .ref r0_7, .ref r0_8])), (r0_6, .inr (4, [.int v1_0, .int v1_1, .ref r1_2, .ref r1_3, .ref r1_4, .ref r1_5, .ref r1_6, .ref r1_7, .ref r1_8, .ref r1_9]))] U.heap ∧ va_K (dC, dI) vwCl [] U ∧ va_D (fun _ => True) [(h0, .inr (9, [.int v0_0, .ref r0_1, .ref r0_2, .ref r0_3, .ref r0_4, .int v0_5, .ref r0_6, .ref r0_7, .ref r0_8])), (r0_6, .inr (4, [.int v1_0, .int v1_1, .ref r1_2, .ref r1_3, .ref r1_4, .ref r1_5, .ref r1_6, .ref r1_7, .ref r1_8, .ref r1_9]))])) (va_Qi (fun (r : Int32) (u : zV) => ((0 : Int) ≤ r.toInt ∧ r.toInt ≤ 1) ∧ (r.toInt = 0 ∨ ((0 : Int) ≤ p1.toInt + (0) ∧ (p1.toInt : Int) ≤ v1_0.toInt + (-1))) ∧ True) (fun u t => va_P (dC, dI) vwCl [(h0, .inr (9, [.int v0_0, .ref r0_1, .ref r0_2, .ref r0_3, .ref r0_4, .int v0_5, .ref r0_6, .ref r0_7, .ref r0_8])), (r0_6, .inr (4, [.int v1_0, .int v1_1, .ref r1_2, .ref r1_3, .ref r1_4, .ref r1_5, .ref r1_6, .ref r1_7, .ref r1_8, .ref r1_9]))] t.heap ∧ va_K (dC, dI) vwCl [] t ∧ va_D (va_A [(h0, .inr (9, [.int v0_0, .ref r0_1, .ref r0_2, .ref r0_3, .ref r0_4, .int v0_5, .ref r0_6, .ref r0_7, .ref r0_8])), (r0_6, .inr (4, [.int v1_0, .int v1_1, .ref r1_2, .ref r1_3, .ref r1_4, .ref r1_5, .ref r1_6, .ref r1_7, .ref r1_8, .ref r1_9]))] sz) [(h0, .inr (9, [.int v0_0, .ref r0_1, .ref r0_2, .ref r0_3, .ref r0_4, .int v0_5, .ref r0_6, .ref r0_7, .ref r0_8])), (r0_6, .inr (4, [.int v1_0, .int v1_1, .ref r1_2, .ref r1_3, .ref r1_4, .ref r1_5, .ref r1_6, .ref r1_7, .ref r1_8, .ref r1_9]))]) (va_A [(h0, .inr (9, [.int v0_0, .ref r0_1, .ref r0_2, .ref r0_3, .ref r0_4, .int v0_5, .ref r0_6, .ref r0_7, .ref r0_8])), (r0_6, .inr (4, [.int v1_0, .int v1_1, .ref r1_2, .ref r1_3, .ref r1_4, .ref r1_5, .ref r1_6, .ref r1_7, .ref r1_8, .ref r1_9]))] sz)) 0 0 (va_A [(h0, .inr (9, [.int v0_0, .ref r0_1, .ref r0_2, .ref r0_3, .ref r0_4, .int v0_5, .ref r0_6, .ref r0_7, .ref r0_8])), (r0_6, .inr (4, [.int v1_0, .int v1_1, .ref r1_2, .ref r1_3, .ref r1_4, .ref r1_5, .ref r1_6, .ref r1_7, .ref r1_8, .ref r1_9]))] sz) := by
  refine Met.ofW (cc := cX9_hasNumber) (maxL := 2) (ret := (some .boolean)) (by decide +kernel) rfl ?_
  intro p e s m args below meth c s₁ B hml hv
  obtain ⟨rfl, hsz, hP, hK, hD0⟩ := hv
  have hx := B.exec
  have hb := B.bytes
  have hr := B.returns
  have hts := atoms_spec (ws := wsX9_hasNumber) B.pre
  have hown : s.vm.findClass RX9 = some m.cls := findClass_of_methodNamed B.named
  have hlocks := B.notSynchronized
  subst hsz
  have hD := hD0.self (sz := s.heap.size)
  generalize hAe : va_A [(h0, .inr (9, [.int v0_0, .ref r0_1, .ref r0_2, .ref r0_3, .ref r0_4, .int v0_5, .ref r0_6, .ref r0_7, .ref r0_8])), (r0_6, .inr (4, [.int v1_0, .int v1_1, .ref r1_2, .ref r1_3, .ref r1_4, .ref r1_5, .ref r1_6, .ref r1_7, .ref r1_8, .ref r1_9]))] s.heap.size = A at hD ⊢
  have hA : ∀ q : Nat, s.heap.size ≤ q → A q := fun q h => by rw [← hAe]; exact Or.inr h
  have hS : va_S A s.heap s.heap [] := va_S.rf
  have hP : va_P (dC, dI) vwCl [(h0, .inr (9, [.int v0_0, .ref r0_1, .ref r0_2, .ref r0_3, .ref r0_4, .int v0_5, .ref r0_6, .ref r0_7, .ref r0_8])), (r0_6, .inr (4, [.int v1_0, .int v1_1, .ref r1_2, .ref r1_3, .ref r1_4, .ref r1_5, .ref r1_6, .ref r1_7, .ref r1_8, .ref r1_9]))] s.heap := hP
  have hl := lv_entry ([.ref h0, .int p1]) (n := 2) (Nat.le_of_ble_eq_true rfl)
  rw [lg_entry_eq]
  generalize (lg_sl ([.ref h0, .int p1]) ++ List.replicate (2 - (lg_sl ([.ref h0, .int p1])).length) Slot.unset).toArray = ls at hl ⊢
  have hl : lv_has ls 2 [(0, .ref h0), (1, .int p1)] := hl
  generalize hQ : MQ below (va_Qi (fun (r : Int32) (u : zV) => ((0 : Int) ≤ r.toInt ∧ r.toInt ≤ 1) ∧ (r.toInt = 0 ∨ ((0 : Int) ≤ p1.toInt + (0) ∧ (p1.toInt : Int) ≤ v1_0.toInt + (-1))) ∧ True) (fun u t => va_P (dC, dI) vwCl [(h0, .inr (9, [.int v0_0, .ref r0_1, .ref r0_2, .ref r0_3, .ref r0_4, .int v0_5, .ref r0_6, .ref r0_7, .ref r0_8])), (r0_6, .inr (4, [.int v1_0, .int v1_1, .ref r1_2, .ref r1_3, .ref r1_4, .ref r1_5, .ref r1_6, .ref r1_7, .ref r1_8, .ref r1_9]))] t.heap ∧ va_K (dC, dI) vwCl [] t ∧ va_D A [(h0, .inr (9, [.int v0_0, .ref r0_1, .ref r0_2, .ref r0_3, .ref r0_4, .int v0_5, .ref r0_6, .ref r0_7, .ref r0_8])), (r0_6, .inr (4, [.int v1_0, .int v1_1, .ref r1_2, .ref r1_3, .ref r1_4, .ref r1_5, .ref r1_6, .ref r1_7, .ref r1_8, .ref r1_9]))]) A) ([.ref h0, .int p1] : List Value).toArray s 0 0 A = Q
  refine lv_iload_n hx hb dX9_hasNumber_0 rfl (lv_at hl 1 rfl) ?_
  refine lv_if_lt (tgt := 19) hx hb dX9_hasNumber_1 (by decide) (fun c_1 => ?_) (fun c_1 => ?_)
  · have oc_1 := zk_lt rfl (by decide +kernel : (0 : Int32).toInt = 0) c_1
    refine lv_iconst (v := 0) hx hb dX9_hasNumber_19 (by decide +kernel) ?_
    have hP9 := hP.sub (ws' := [(h0, .inr (9, [.int v0_0, .ref r0_1, .ref r0_2, .ref r0_3, .ref r0_4, .int v0_5, .ref r0_6, .ref r0_7, .ref r0_8])), (r0_6, .inr (4, [.int v1_0, .int v1_1, .ref r1_2, .ref r1_3, .ref r1_4, .ref r1_5, .ref r1_6, .ref r1_7, .ref r1_8, .ref r1_9]))]) [0, 1] rfl
    have hD9 := hD.sub (ws' := [(h0, .inr (9, [.int v0_0, .ref r0_1, .ref r0_2, .ref r0_3, .ref r0_4, .int v0_5, .ref r0_6, .ref r0_7, .ref r0_8])), (r0_6, .inr (4, [.int v1_0, .int v1_1, .ref r1_2, .ref r1_3, .ref r1_4, .ref r1_5, .ref r1_6, .ref r1_7, .ref r1_8, .ref r1_9]))]) [0, 1] (by decide) rfl
    have hK9 := hK.sub (tys' := []) [] rfl
    rw [← hQ]
    exact W.zret (v := 0) hx hb hr rfl (fun t ht hW => ⟨⟨0, ((fun k => ([] : List Int32).getD k 0), (fun k => ([] : List (Nat → Int32)).getD k (fun _ => 0)), (fun k => ([] : List (Nat → Int64)).getD k (fun _ => 0))), rfl, ⟨(show (0 : Int) ≤ (0 : Int32).toInt ∧ (0 : Int32).toInt ≤ 1 by decide +kernel), (show ((0 : Int32).toInt = 0 ∨ ((0 : Int) ≤ p1.toInt + (0) ∧ (p1.toInt : Int) ≤ v1_0.toInt + (-1))) by exact Or.inl (by decide +kernel)), trivial⟩, by rw [ht]; exact hP9, va_K.moved hW.alike hK9, hD9⟩, hS.F ht⟩) hS.2.2 dX9_hasNumber_20
  have oc_1 := zk_nlt rfl (by decide +kernel : (0 : Int32).toInt = 0) c_1
  refine lv_iload_n hx hb dX9_hasNumber_4 rfl (lv_at hl 1 rfl) ?_
  refine lv_aload_n hx hb dX9_hasNumber_5 rfl (lv_at hl 0 rfl) ?_
  refine va_get (D := (dC, dI)) (ci := 9) (v := .ref r0_6) (C := RX9) (T := TX9) (N := 9) hx hb hts zn_X9_hasNumber_X9 hown hK hP 0 rfl rfl 6 (by decide) (hts (.fieldLink RX9 27 "ShortEnough$Task" "numbers" "LShortEnough$Numbers;") zw_X9_hasNumber_3) (fun _ h9 => h9) rfl dX9_hasNumber_6 ?_
  refine va_get (D := (dC, dI)) (ci := 4) (v := .int v1_0) (C := RX4) (T := TX4) (N := 10) hx hb hts zn_X9_hasNumber_X4 hown hK hP 1 rfl rfl 0 (by decide) (hts (.fieldLink RX9 52 "ShortEnough$Numbers" "count" "I") zw_X9_hasNumber_5) (fun _ h9 => h9) rfl dX9_hasNumber_9 ?_
  refine lv_icmp_ge (tgt := 19) hx hb dX9_hasNumber_12 (by decide) (fun c_2 => ?_) (fun c_2 => ?_)
  · have oc_2 := zk_le rfl rfl c_2
    refine lv_iconst (v := 0) hx hb dX9_hasNumber_19 (by decide +kernel) ?_
    have hP9 := hP.sub (ws' := [(h0, .inr (9, [.int v0_0, .ref r0_1, .ref r0_2, .ref r0_3, .ref r0_4, .int v0_5, .ref r0_6, .ref r0_7, .ref r0_8])), (r0_6, .inr (4, [.int v1_0, .int v1_1, .ref r1_2, .ref r1_3, .ref r1_4, .ref r1_5, .ref r1_6, .ref r1_7, .ref r1_8, .ref r1_9]))]) [0, 1] rfl
    have hD9 := hD.sub (ws' := [(h0, .inr (9, [.int v0_0, .ref r0_1, .ref r0_2, .ref r0_3, .ref r0_4, .int v0_5, .ref r0_6, .ref r0_7, .ref r0_8])), (r0_6, .inr (4, [.int v1_0, .int v1_1, .ref r1_2, .ref r1_3, .ref r1_4, .ref r1_5, .ref r1_6, .ref r1_7, .ref r1_8, .ref r1_9]))]) [0, 1] (by decide) rfl
    have hK9 := hK.sub (tys' := []) [] rfl
    rw [← hQ]
    exact W.zret (v := 0) hx hb hr rfl (fun t ht hW => ⟨⟨0, ((fun k => ([] : List Int32).getD k 0), (fun k => ([] : List (Nat → Int32)).getD k (fun _ => 0)), (fun k => ([] : List (Nat → Int64)).getD k (fun _ => 0))), rfl, ⟨(show (0 : Int) ≤ (0 : Int32).toInt ∧ (0 : Int32).toInt ≤ 1 by decide +kernel), (show ((0 : Int32).toInt = 0 ∨ ((0 : Int) ≤ p1.toInt + (0) ∧ (p1.toInt : Int) ≤ v1_0.toInt + (-1))) by exact Or.inl (by decide +kernel)), trivial⟩, by rw [ht]; exact hP9, va_K.moved hW.alike hK9, hD9⟩, hS.F ht⟩) hS.2.2 dX9_hasNumber_20
  have oc_2 := zk_nle rfl rfl c_2
  refine lv_iconst (v := 1) hx hb dX9_hasNumber_15 (by decide +kernel) ?_
  refine lv_goto (tgt := 20) hx hb dX9_hasNumber_16 (by decide) ?_
  have hP9 := hP.sub (ws' := [(h0, .inr (9, [.int v0_0, .ref r0_1, .ref r0_2, .ref r0_3, .ref r0_4, .int v0_5, .ref r0_6, .ref r0_7, .ref r0_8])), (r0_6, .inr (4, [.int v1_0, .int v1_1, .ref r1_2, .ref r1_3, .ref r1_4, .ref r1_5, .ref r1_6, .ref r1_7, .ref r1_8, .ref r1_9]))]) [0, 1] rfl
  have hD9 := hD.sub (ws' := [(h0, .inr (9, [.int v0_0, .ref r0_1, .ref r0_2, .ref r0_3, .ref r0_4, .int v0_5, .ref r0_6, .ref r0_7, .ref r0_8])), (r0_6, .inr (4, [.int v1_0, .int v1_1, .ref r1_2, .ref r1_3, .ref r1_4, .ref r1_5, .ref r1_6, .ref r1_7, .ref r1_8, .ref r1_9]))]) [0, 1] (by decide) rfl
  have hK9 := hK.sub (tys' := []) [] rfl
  rw [← hQ]
  exact W.zret (v := 1) hx hb hr rfl (fun t ht hW => ⟨⟨1, ((fun k => ([] : List Int32).getD k 0), (fun k => ([] : List (Nat → Int32)).getD k (fun _ => 0)), (fun k => ([] : List (Nat → Int64)).getD k (fun _ => 0))), rfl, ⟨(show (0 : Int) ≤ (1 : Int32).toInt ∧ (1 : Int32).toInt ≤ 1 by decide +kernel), (show ((1 : Int32).toInt = 0 ∨ ((0 : Int) ≤ p1.toInt + (0) ∧ (p1.toInt : Int) ≤ v1_0.toInt + (-1))) by right; omega), trivial⟩, by rw [ht]; exact hP9, va_K.moved hW.alike hK9, hD9⟩, hS.F ht⟩) hS.2.2 dX9_hasNumber_20
set_option maxHeartbeats 4000000 in
set_option maxRecDepth 100000 in
theorem zs_X4_madeOf (l : Launch) (dC : Nat → ClassId) (dI : Nat → Nat → Nat) (h0 : Nat) (p1 : Int32) (p2 : Int32) (v0_0 : Int32) (v0_1 : Int32) (r0_2 : Nat) (r0_3 : Nat) (r0_4 : Nat) (r0_5 : Nat) (r0_6 : Nat) (r0_7 : Nat) (r0_8 : Nat) (r0_9 : Nat) (k1 : Nat) (f1 : Nat → Int32) (hq_v0_0 : (0 : Int) ≤ v0_0.toInt ∧ v0_0.toInt ≤ 14) (sz : Nat) : Met l yX4_madeOf wsX4_madeOf ({ frames := 0, cells := 0, slots := 0, locals := 0 }) (va_Pc [.ref h0, .int p1, .int p2] (fun U => U.heap.size = sz ∧ va_P (dC, dI) vwCl [(h0, .inr (4, [.int v0_0, .int v0_1, .ref r0_2, .ref r0_3, .ref r0_4, .ref r0_5, .ref r0_6, .ref r0_7, .ref r0_8, .ref r0_9])), (r0_8, .inl (k1, 28, .inl f1))] U.heap ∧ va_K (dC, dI) vwCl [(k1, .int)] U ∧ va_D (fun _ => True) [(h0, .inr (4, [.int v0_0, .int v0_1, .ref r0_2, .ref r0_3, .ref r0_4, .ref r0_5, .ref r0_6, .ref r0_7, .ref r0_8, .ref r0_9])), (r0_8, .inl (k1, 28, .inl f1))])) (va_Qi (fun (r : Int32) (u : zV) => (r.toInt = -1 ∨ ((0 : Int) ≤ p1.toInt + (0) ∧ (0 : Int) ≤ p2.toInt + (0) ∧ (p1.toInt : Int) ≤ v0_0.toInt + (-1) ∧ (p2.toInt : Int) ≤ 0 + (1))) ∧ True) (fun u t => va_P (dC, dI) vwCl [(h0, .inr (4, [.int v0_0, .int v0_1, .ref r0_2, .ref r0_3, .ref r0_4, .ref r0_5, .ref r0_6, .ref r0_7, .ref r0_8, .ref r0_9])), (r0_8, .inl (k1, 28, .inl f1))] t.heap ∧ va_K (dC, dI) vwCl [(k1, .int)] t ∧ va_D (va_A [(h0, .inr (4, [.int v0_0, .int v0_1, .ref r0_2, .ref r0_3, .ref r0_4, .ref r0_5, .ref r0_6, .ref r0_7, .ref r0_8, .ref r0_9])), (r0_8, .inl (k1, 28, .inl f1))] sz) [(h0, .inr (4, [.int v0_0, .int v0_1, .ref r0_2, .ref r0_3, .ref r0_4, .ref r0_5, .ref r0_6, .ref r0_7, .ref r0_8, .ref r0_9])), (r0_8, .inl (k1, 28, .inl f1))]) (va_A [(h0, .inr (4, [.int v0_0, .int v0_1, .ref r0_2, .ref r0_3, .ref r0_4, .ref r0_5, .ref r0_6, .ref r0_7, .ref r0_8, .ref r0_9])), (r0_8, .inl (k1, 28, .inl f1))] sz)) 0 0 (va_A [(h0, .inr (4, [.int v0_0, .int v0_1, .ref r0_2, .ref r0_3, .ref r0_4, .ref r0_5, .ref r0_6, .ref r0_7, .ref r0_8, .ref r0_9])), (r0_8, .inl (k1, 28, .inl f1))] sz) := by
  refine Met.ofW (cc := cX4_madeOf) (maxL := 3) (ret := (some .int)) (by decide +kernel) rfl ?_
  intro p e s m args below meth c s₁ B hml hv
  obtain ⟨rfl, hsz, hP, hK, hD0⟩ := hv
  have hx := B.exec
  have hb := B.bytes
  have hr := B.returns
  have hts := atoms_spec (ws := wsX4_madeOf) B.pre
  have hown : s.vm.findClass RX4 = some m.cls := findClass_of_methodNamed B.named
  have hlocks := B.notSynchronized
  subst hsz
  have hD := hD0.self (sz := s.heap.size)
  generalize hAe : va_A [(h0, .inr (4, [.int v0_0, .int v0_1, .ref r0_2, .ref r0_3, .ref r0_4, .ref r0_5, .ref r0_6, .ref r0_7, .ref r0_8, .ref r0_9])), (r0_8, .inl (k1, 28, .inl f1))] s.heap.size = A at hD ⊢
  have hA : ∀ q : Nat, s.heap.size ≤ q → A q := fun q h => by rw [← hAe]; exact Or.inr h
  have hS : va_S A s.heap s.heap [] := va_S.rf
  have hP : va_P (dC, dI) vwCl [(h0, .inr (4, [.int v0_0, .int v0_1, .ref r0_2, .ref r0_3, .ref r0_4, .ref r0_5, .ref r0_6, .ref r0_7, .ref r0_8, .ref r0_9])), (r0_8, .inl (k1, 28, .inl f1))] s.heap := hP
  have hl := lv_entry ([.ref h0, .int p1, .int p2]) (n := 3) (Nat.le_of_ble_eq_true rfl)
  rw [lg_entry_eq]
  generalize (lg_sl ([.ref h0, .int p1, .int p2]) ++ List.replicate (3 - (lg_sl ([.ref h0, .int p1, .int p2])).length) Slot.unset).toArray = ls at hl ⊢
  have hl : lv_has ls 3 [(0, .ref h0), (1, .int p1), (2, .int p2)] := hl
  generalize hQ : MQ below (va_Qi (fun (r : Int32) (u : zV) => (r.toInt = -1 ∨ ((0 : Int) ≤ p1.toInt + (0) ∧ (0 : Int) ≤ p2.toInt + (0) ∧ (p1.toInt : Int) ≤ v0_0.toInt + (-1) ∧ (p2.toInt : Int) ≤ 0 + (1))) ∧ True) (fun u t => va_P (dC, dI) vwCl [(h0, .inr (4, [.int v0_0, .int v0_1, .ref r0_2, .ref r0_3, .ref r0_4, .ref r0_5, .ref r0_6, .ref r0_7, .ref r0_8, .ref r0_9])), (r0_8, .inl (k1, 28, .inl f1))] t.heap ∧ va_K (dC, dI) vwCl [(k1, .int)] t ∧ va_D A [(h0, .inr (4, [.int v0_0, .int v0_1, .ref r0_2, .ref r0_3, .ref r0_4, .ref r0_5, .ref r0_6, .ref r0_7, .ref r0_8, .ref r0_9])), (r0_8, .inl (k1, 28, .inl f1))]) A) ([.ref h0, .int p1, .int p2] : List Value).toArray s 0 0 A = Q
  refine lv_iload_n hx hb dX4_madeOf_0 rfl (lv_at hl 1 rfl) ?_
  refine lv_if_lt (tgt := 34) hx hb dX4_madeOf_1 (by decide) (fun c_1 => ?_) (fun c_1 => ?_)
  · have oc_1 := zk_lt rfl (by decide +kernel : (0 : Int32).toInt = 0) c_1
    refine lv_iconst (v := (-1)) hx hb dX4_madeOf_34 (by decide +kernel) ?_
    have hP9 := hP.sub (ws' := [(h0, .inr (4, [.int v0_0, .int v0_1, .ref r0_2, .ref r0_3, .ref r0_4, .ref r0_5, .ref r0_6, .ref r0_7, .ref r0_8, .ref r0_9])), (r0_8, .inl (k1, 28, .inl f1))]) [0, 1] rfl
    have hD9 := hD.sub (ws' := [(h0, .inr (4, [.int v0_0, .int v0_1, .ref r0_2, .ref r0_3, .ref r0_4, .ref r0_5, .ref r0_6, .ref r0_7, .ref r0_8, .ref r0_9])), (r0_8, .inl (k1, 28, .inl f1))]) [0, 1] (by decide) rfl
    have hK9 := hK.sub (tys' := [(k1, .int)]) [0] rfl
    rw [← hQ]
    exact W.iret (v := (-1)) hx hb hr (fun t ht hW => ⟨⟨(-1), ((fun k => ([] : List Int32).getD k 0), (fun k => ([] : List (Nat → Int32)).getD k (fun _ => 0)), (fun k => ([] : List (Nat → Int64)).getD k (fun _ => 0))), rfl, ⟨(show (((-1) : Int32).toInt = -1 ∨ ((0 : Int) ≤ p1.toInt + (0) ∧ (0 : Int) ≤ p2.toInt + (0) ∧ (p1.toInt : Int) ≤ v0_0.toInt + (-1) ∧ (p2.toInt : Int) ≤ 0 + (1))) by exact Or.inl (by decide +kernel)), trivial⟩, by rw [ht]; exact hP9, va_K.moved hW.alike hK9, hD9⟩, hS.F ht⟩) hS.2.2 dX4_madeOf_35
  have oc_1 := zk_nlt rfl (by decide +kernel : (0 : Int32).toInt = 0) c_1
  refine lv_iload_n hx hb dX4_madeOf_4 rfl (lv_at hl 1 rfl) ?_
  refine lv_aload_n hx hb dX4_madeOf_5 rfl (lv_at hl 0 rfl) ?_
  refine va_get (D := (dC, dI)) (ci := 4) (v := .int v0_0) (C := RX4) (T := TX4) (N := 10) hx hb hts zn_X4_madeOf_X4 hown hK hP 0 rfl rfl 0 (by decide) (hts (.fieldLink RX4 36 "ShortEnough$Numbers" "count" "I") zw_X4_madeOf_7) (fun _ h9 => h9) rfl dX4_madeOf_6 ?_
  refine lv_icmp_ge (tgt := 34) hx hb dX4_madeOf_9 (by decide) (fun c_2 => ?_) (fun c_2 => ?_)
  · have oc_2 := zk_le rfl rfl c_2
    refine lv_iconst (v := (-1)) hx hb dX4_madeOf_34 (by decide +kernel) ?_
    have hP9 := hP.sub (ws' := [(h0, .inr (4, [.int v0_0, .int v0_1, .ref r0_2, .ref r0_3, .ref r0_4, .ref r0_5, .ref r0_6, .ref r0_7, .ref r0_8, .ref r0_9])), (r0_8, .inl (k1, 28, .inl f1))]) [0, 1] rfl
    have hD9 := hD.sub (ws' := [(h0, .inr (4, [.int v0_0, .int v0_1, .ref r0_2, .ref r0_3, .ref r0_4, .ref r0_5, .ref r0_6, .ref r0_7, .ref r0_8, .ref r0_9])), (r0_8, .inl (k1, 28, .inl f1))]) [0, 1] (by decide) rfl
    have hK9 := hK.sub (tys' := [(k1, .int)]) [0] rfl
    rw [← hQ]
    exact W.iret (v := (-1)) hx hb hr (fun t ht hW => ⟨⟨(-1), ((fun k => ([] : List Int32).getD k 0), (fun k => ([] : List (Nat → Int32)).getD k (fun _ => 0)), (fun k => ([] : List (Nat → Int64)).getD k (fun _ => 0))), rfl, ⟨(show (((-1) : Int32).toInt = -1 ∨ ((0 : Int) ≤ p1.toInt + (0) ∧ (0 : Int) ≤ p2.toInt + (0) ∧ (p1.toInt : Int) ≤ v0_0.toInt + (-1) ∧ (p2.toInt : Int) ≤ 0 + (1))) by exact Or.inl (by decide +kernel)), trivial⟩, by rw [ht]; exact hP9, va_K.moved hW.alike hK9, hD9⟩, hS.F ht⟩) hS.2.2 dX4_madeOf_35
  have oc_2 := zk_nle rfl rfl c_2
  refine lv_iload_n hx hb dX4_madeOf_12 rfl (lv_at hl 2 rfl) ?_
  refine lv_if_lt (tgt := 34) hx hb dX4_madeOf_13 (by decide) (fun c_3 => ?_) (fun c_3 => ?_)
  · have oc_3 := zk_lt rfl (by decide +kernel : (0 : Int32).toInt = 0) c_3
    refine lv_iconst (v := (-1)) hx hb dX4_madeOf_34 (by decide +kernel) ?_
    have hP9 := hP.sub (ws' := [(h0, .inr (4, [.int v0_0, .int v0_1, .ref r0_2, .ref r0_3, .ref r0_4, .ref r0_5, .ref r0_6, .ref r0_7, .ref r0_8, .ref r0_9])), (r0_8, .inl (k1, 28, .inl f1))]) [0, 1] rfl
    have hD9 := hD.sub (ws' := [(h0, .inr (4, [.int v0_0, .int v0_1, .ref r0_2, .ref r0_3, .ref r0_4, .ref r0_5, .ref r0_6, .ref r0_7, .ref r0_8, .ref r0_9])), (r0_8, .inl (k1, 28, .inl f1))]) [0, 1] (by decide) rfl
    have hK9 := hK.sub (tys' := [(k1, .int)]) [0] rfl
    rw [← hQ]
    exact W.iret (v := (-1)) hx hb hr (fun t ht hW => ⟨⟨(-1), ((fun k => ([] : List Int32).getD k 0), (fun k => ([] : List (Nat → Int32)).getD k (fun _ => 0)), (fun k => ([] : List (Nat → Int64)).getD k (fun _ => 0))), rfl, ⟨(show (((-1) : Int32).toInt = -1 ∨ ((0 : Int) ≤ p1.toInt + (0) ∧ (0 : Int) ≤ p2.toInt + (0) ∧ (p1.toInt : Int) ≤ v0_0.toInt + (-1) ∧ (p2.toInt : Int) ≤ 0 + (1))) by exact Or.inl (by decide +kernel)), trivial⟩, by rw [ht]; exact hP9, va_K.moved hW.alike hK9, hD9⟩, hS.F ht⟩) hS.2.2 dX4_madeOf_35
  have oc_3 := zk_nlt rfl (by decide +kernel : (0 : Int32).toInt = 0) c_3
  refine lv_iload_n hx hb dX4_madeOf_16 rfl (lv_at hl 2 rfl) ?_
  refine lv_iconst (v := 2) hx hb dX4_madeOf_17 (by decide +kernel) ?_
  refine lv_icmp_ge (tgt := 34) hx hb dX4_madeOf_18 (by decide) (fun c_4 => ?_) (fun c_4 => ?_)
  · have oc_4 := zk_le (by decide +kernel : (2 : Int32).toInt = 2) rfl c_4
    refine lv_iconst (v := (-1)) hx hb dX4_madeOf_34 (by decide +kernel) ?_
    have hP9 := hP.sub (ws' := [(h0, .inr (4, [.int v0_0, .int v0_1, .ref r0_2, .ref r0_3, .ref r0_4, .ref r0_5, .ref r0_6, .ref r0_7, .ref r0_8, .ref r0_9])), (r0_8, .inl (k1, 28, .inl f1))]) [0, 1] rfl
    have hD9 := hD.sub (ws' := [(h0, .inr (4, [.int v0_0, .int v0_1, .ref r0_2, .ref r0_3, .ref r0_4, .ref r0_5, .ref r0_6, .ref r0_7, .ref r0_8, .ref r0_9])), (r0_8, .inl (k1, 28, .inl f1))]) [0, 1] (by decide) rfl
    have hK9 := hK.sub (tys' := [(k1, .int)]) [0] rfl
    rw [← hQ]
    exact W.iret (v := (-1)) hx hb hr (fun t ht hW => ⟨⟨(-1), ((fun k => ([] : List Int32).getD k 0), (fun k => ([] : List (Nat → Int32)).getD k (fun _ => 0)), (fun k => ([] : List (Nat → Int64)).getD k (fun _ => 0))), rfl, ⟨(show (((-1) : Int32).toInt = -1 ∨ ((0 : Int) ≤ p1.toInt + (0) ∧ (0 : Int) ≤ p2.toInt + (0) ∧ (p1.toInt : Int) ≤ v0_0.toInt + (-1) ∧ (p2.toInt : Int) ≤ 0 + (1))) by exact Or.inl (by decide +kernel)), trivial⟩, by rw [ht]; exact hP9, va_K.moved hW.alike hK9, hD9⟩, hS.F ht⟩) hS.2.2 dX4_madeOf_35
  have oc_4 := zk_nle (by decide +kernel : (2 : Int32).toInt = 2) rfl c_4
  refine lv_aload_n hx hb dX4_madeOf_21 rfl (lv_at hl 0 rfl) ?_
  refine va_get (D := (dC, dI)) (ci := 4) (v := .ref r0_8) (C := RX4) (T := TX4) (N := 10) hx hb hts zn_X4_madeOf_X4 hown hK hP 0 rfl rfl 8 (by decide) (hts (.fieldLink RX4 30 "ShortEnough$Numbers" "made" "[I") zw_X4_madeOf_8) (fun _ h9 => h9) rfl dX4_madeOf_22 ?_
  refine lv_iconst (v := 2) hx hb dX4_madeOf_25 (by decide +kernel) ?_
  refine lv_iload_n hx hb dX4_madeOf_26 rfl (lv_at hl 1 rfl) ?_
  refine lv_imul hx hb dX4_madeOf_27 ?_
  refine lv_topi (fun x_5 ex_5 => ?_)
  have hx_5 := zo_mul ex_5 (by decide +kernel : (2 : Int32).toInt = 2) rfl (by omega)
  refine lv_iload_n hx hb dX4_madeOf_28 rfl (lv_at hl 2 rfl) ?_
  refine lv_iadd hx hb dX4_madeOf_29 ?_
  refine lv_topi (fun x_6 ex_6 => ?_)
  have hx_6 := zo_add ex_6 rfl rfl (by omega)
  refine va_iald hx hb hK hP 1 0 rfl rfl (vp_in_iff.mpr ⟨by omega, by omega⟩) dX4_madeOf_30 ?_
  refine lv_topi (fun x_7 ex_7 => ?_)
  refine lv_goto (tgt := 35) hx hb dX4_madeOf_31 (by decide) ?_
  have hP9 := hP.sub (ws' := [(h0, .inr (4, [.int v0_0, .int v0_1, .ref r0_2, .ref r0_3, .ref r0_4, .ref r0_5, .ref r0_6, .ref r0_7, .ref r0_8, .ref r0_9])), (r0_8, .inl (k1, 28, .inl f1))]) [0, 1] rfl
  have hD9 := hD.sub (ws' := [(h0, .inr (4, [.int v0_0, .int v0_1, .ref r0_2, .ref r0_3, .ref r0_4, .ref r0_5, .ref r0_6, .ref r0_7, .ref r0_8, .ref r0_9])), (r0_8, .inl (k1, 28, .inl f1))]) [0, 1] (by decide) rfl
  have hK9 := hK.sub (tys' := [(k1, .int)]) [0] rfl
  rw [← hQ]
  exact W.iret (v := x_7) hx hb hr (fun t ht hW => ⟨⟨x_7, ((fun k => ([] : List Int32).getD k 0), (fun k => ([] : List (Nat → Int32)).getD k (fun _ => 0)), (fun k => ([] : List (Nat → Int64)).getD k (fun _ => 0))), rfl, ⟨(show ((x_7 : Int32).toInt = -1 ∨ ((0 : Int) ≤ p1.toInt + (0) ∧ (0 : Int) ≤ p2.toInt + (0) ∧ (p1.toInt : Int) ≤ v0_0.toInt + (-1) ∧ (p2.toInt : Int) ≤ 0 + (1))) by omega), trivial⟩, by rw [ht]; exact hP9, va_K.moved hW.alike hK9, hD9⟩, hS.F ht⟩) hS.2.2 dX4_madeOf_35
set_option maxHeartbeats 4000000 in
set_option maxRecDepth 100000 in
theorem zs_X4_amountOf (l : Launch) (dC : Nat → ClassId) (dI : Nat → Nat → Nat) (h0 : Nat) (p1 : Int32) (p2 : Int32) (v0_0 : Int32) (v0_1 : Int32) (r0_2 : Nat) (r0_3 : Nat) (r0_4 : Nat) (r0_5 : Nat) (r0_6 : Nat) (r0_7 : Nat) (r0_8 : Nat) (r0_9 : Nat) (k1 : Nat) (f1 : Nat → Int32) (hq_v0_0 : (0 : Int) ≤ v0_0.toInt ∧ v0_0.toInt ≤ 14) (sz : Nat) : Met l yX4_amountOf wsX4_amountOf ({ frames := 0, cells := 0, slots := 0, locals := 0 }) (va_Pc [.ref h0, .int p1, .int p2] (fun U => U.heap.size = sz ∧ va_P (dC, dI) vwCl [(h0, .inr (4, [.int v0_0, .int v0_1, .ref r0_2, .ref r0_3, .ref r0_4, .ref r0_5, .ref r0_6, .ref r0_7, .ref r0_8, .ref r0_9])), (r0_9, .inl (k1, 28, .inl f1))] U.heap ∧ va_K (dC, dI) vwCl [(k1, .int)] U ∧ va_D (fun _ => True) [(h0, .inr (4, [.int v0_0, .int v0_1, .ref r0_2, .ref r0_3, .ref r0_4, .ref r0_5, .ref r0_6, .ref r0_7, .ref r0_8, .ref r0_9])), (r0_9, .inl (k1, 28, .inl f1))])) (va_Ql (fun (r : Int64) (u : zV) => True) (fun u t => va_P (dC, dI) vwCl [(h0, .inr (4, [.int v0_0, .int v0_1, .ref r0_2, .ref r0_3, .ref r0_4, .ref r0_5, .ref r0_6, .ref r0_7, .ref r0_8, .ref r0_9])), (r0_9, .inl (k1, 28, .inl f1))] t.heap ∧ va_K (dC, dI) vwCl [(k1, .int)] t ∧ va_D (va_A [(h0, .inr (4, [.int v0_0, .int v0_1, .ref r0_2, .ref r0_3, .ref r0_4, .ref r0_5, .ref r0_6, .ref r0_7, .ref r0_8, .ref r0_9])), (r0_9, .inl (k1, 28, .inl f1))] sz) [(h0, .inr (4, [.int v0_0, .int v0_1, .ref r0_2, .ref r0_3, .ref r0_4, .ref r0_5, .ref r0_6, .ref r0_7, .ref r0_8, .ref r0_9])), (r0_9, .inl (k1, 28, .inl f1))]) (va_A [(h0, .inr (4, [.int v0_0, .int v0_1, .ref r0_2, .ref r0_3, .ref r0_4, .ref r0_5, .ref r0_6, .ref r0_7, .ref r0_8, .ref r0_9])), (r0_9, .inl (k1, 28, .inl f1))] sz)) 0 0 (va_A [(h0, .inr (4, [.int v0_0, .int v0_1, .ref r0_2, .ref r0_3, .ref r0_4, .ref r0_5, .ref r0_6, .ref r0_7, .ref r0_8, .ref r0_9])), (r0_9, .inl (k1, 28, .inl f1))] sz) := by
  refine Met.ofW (cc := cX4_amountOf) (maxL := 3) (ret := (some .long)) (by decide +kernel) rfl ?_
  intro p e s m args below meth c s₁ B hml hv
  obtain ⟨rfl, hsz, hP, hK, hD0⟩ := hv
  have hx := B.exec
  have hb := B.bytes
  have hr := B.returns
  have hts := atoms_spec (ws := wsX4_amountOf) B.pre
  have hown : s.vm.findClass RX4 = some m.cls := findClass_of_methodNamed B.named
  have hlocks := B.notSynchronized
  subst hsz
  have hD := hD0.self (sz := s.heap.size)
  generalize hAe : va_A [(h0, .inr (4, [.int v0_0, .int v0_1, .ref r0_2, .ref r0_3, .ref r0_4, .ref r0_5, .ref r0_6, .ref r0_7, .ref r0_8, .ref r0_9])), (r0_9, .inl (k1, 28, .inl f1))] s.heap.size = A at hD ⊢
  have hA : ∀ q : Nat, s.heap.size ≤ q → A q := fun q h => by rw [← hAe]; exact Or.inr h
  have hS : va_S A s.heap s.heap [] := va_S.rf
  have hP : va_P (dC, dI) vwCl [(h0, .inr (4, [.int v0_0, .int v0_1, .ref r0_2, .ref r0_3, .ref r0_4, .ref r0_5, .ref r0_6, .ref r0_7, .ref r0_8, .ref r0_9])), (r0_9, .inl (k1, 28, .inl f1))] s.heap := hP
  have hl := lv_entry ([.ref h0, .int p1, .int p2]) (n := 3) (Nat.le_of_ble_eq_true rfl)
  rw [lg_entry_eq]
  generalize (lg_sl ([.ref h0, .int p1, .int p2]) ++ List.replicate (3 - (lg_sl ([.ref h0, .int p1, .int p2])).length) Slot.unset).toArray = ls at hl ⊢
  have hl : lv_has ls 3 [(0, .ref h0), (1, .int p1), (2, .int p2)] := hl
  generalize hQ : MQ below (va_Ql (fun (r : Int64) (u : zV) => True) (fun u t => va_P (dC, dI) vwCl [(h0, .inr (4, [.int v0_0, .int v0_1, .ref r0_2, .ref r0_3, .ref r0_4, .ref r0_5, .ref r0_6, .ref r0_7, .ref r0_8, .ref r0_9])), (r0_9, .inl (k1, 28, .inl f1))] t.heap ∧ va_K (dC, dI) vwCl [(k1, .int)] t ∧ va_D A [(h0, .inr (4, [.int v0_0, .int v0_1, .ref r0_2, .ref r0_3, .ref r0_4, .ref r0_5, .ref r0_6, .ref r0_7, .ref r0_8, .ref r0_9])), (r0_9, .inl (k1, 28, .inl f1))]) A) ([.ref h0, .int p1, .int p2] : List Value).toArray s 0 0 A = Q
  refine lv_iload_n hx hb dX4_amountOf_0 rfl (lv_at hl 1 rfl) ?_
  refine lv_if_lt (tgt := 35) hx hb dX4_amountOf_1 (by decide) (fun c_1 => ?_) (fun c_1 => ?_)
  · have oc_1 := zk_lt rfl (by decide +kernel : (0 : Int32).toInt = 0) c_1
    refine lv_lconst (v := 0) hx hb dX4_amountOf_35 (by decide +kernel) ?_
    have hP9 := hP.sub (ws' := [(h0, .inr (4, [.int v0_0, .int v0_1, .ref r0_2, .ref r0_3, .ref r0_4, .ref r0_5, .ref r0_6, .ref r0_7, .ref r0_8, .ref r0_9])), (r0_9, .inl (k1, 28, .inl f1))]) [0, 1] rfl
    have hD9 := hD.sub (ws' := [(h0, .inr (4, [.int v0_0, .int v0_1, .ref r0_2, .ref r0_3, .ref r0_4, .ref r0_5, .ref r0_6, .ref r0_7, .ref r0_8, .ref r0_9])), (r0_9, .inl (k1, 28, .inl f1))]) [0, 1] (by decide) rfl
    have hK9 := hK.sub (tys' := [(k1, .int)]) [0] rfl
    rw [← hQ]
    exact W.lret (v := 0) hx hb hr (fun t ht hW => ⟨⟨0, ((fun k => ([] : List Int32).getD k 0), (fun k => ([] : List (Nat → Int32)).getD k (fun _ => 0)), (fun k => ([] : List (Nat → Int64)).getD k (fun _ => 0))), rfl, trivial, by rw [ht]; exact hP9, va_K.moved hW.alike hK9, hD9⟩, hS.F ht⟩) hS.2.2 dX4_amountOf_36
  have oc_1 := zk_nlt rfl (by decide +kernel : (0 : Int32).toInt = 0) c_1
  refine lv_iload_n hx hb dX4_amountOf_4 rfl (lv_at hl 1 rfl) ?_
  refine lv_aload_n hx hb dX4_amountOf_5 rfl (lv_at hl 0 rfl) ?_
  refine va_get (D := (dC, dI)) (ci := 4) (v := .int v0_0) (C := RX4) (T := TX4) (N := 10) hx hb hts zn_X4_amountOf_X4 hown hK hP 0 rfl rfl 0 (by decide) (hts (.fieldLink RX4 36 "ShortEnough$Numbers" "count" "I") zw_X4_amountOf_10) (fun _ h9 => h9) rfl dX4_amountOf_6 ?_
  refine lv_icmp_ge (tgt := 35) hx hb dX4_amountOf_9 (by decide) (fun c_2 => ?_) (fun c_2 => ?_)
  · have oc_2 := zk_le rfl rfl c_2
    refine lv_lconst (v := 0) hx hb dX4_amountOf_35 (by decide +kernel) ?_
    have hP9 := hP.sub (ws' := [(h0, .inr (4, [.int v0_0, .int v0_1, .ref r0_2, .ref r0_3, .ref r0_4, .ref r0_5, .ref r0_6, .ref r0_7, .ref r0_8, .ref r0_9])), (r0_9, .inl (k1, 28, .inl f1))]) [0, 1] rfl
    have hD9 := hD.sub (ws' := [(h0, .inr (4, [.int v0_0, .int v0_1, .ref r0_2, .ref r0_3, .ref r0_4, .ref r0_5, .ref r0_6, .ref r0_7, .ref r0_8, .ref r0_9])), (r0_9, .inl (k1, 28, .inl f1))]) [0, 1] (by decide) rfl
    have hK9 := hK.sub (tys' := [(k1, .int)]) [0] rfl
    rw [← hQ]
    exact W.lret (v := 0) hx hb hr (fun t ht hW => ⟨⟨0, ((fun k => ([] : List Int32).getD k 0), (fun k => ([] : List (Nat → Int32)).getD k (fun _ => 0)), (fun k => ([] : List (Nat → Int64)).getD k (fun _ => 0))), rfl, trivial, by rw [ht]; exact hP9, va_K.moved hW.alike hK9, hD9⟩, hS.F ht⟩) hS.2.2 dX4_amountOf_36
  have oc_2 := zk_nle rfl rfl c_2
  refine lv_iload_n hx hb dX4_amountOf_12 rfl (lv_at hl 2 rfl) ?_
  refine lv_if_lt (tgt := 35) hx hb dX4_amountOf_13 (by decide) (fun c_3 => ?_) (fun c_3 => ?_)
  · have oc_3 := zk_lt rfl (by decide +kernel : (0 : Int32).toInt = 0) c_3
    refine lv_lconst (v := 0) hx hb dX4_amountOf_35 (by decide +kernel) ?_
    have hP9 := hP.sub (ws' := [(h0, .inr (4, [.int v0_0, .int v0_1, .ref r0_2, .ref r0_3, .ref r0_4, .ref r0_5, .ref r0_6, .ref r0_7, .ref r0_8, .ref r0_9])), (r0_9, .inl (k1, 28, .inl f1))]) [0, 1] rfl
    have hD9 := hD.sub (ws' := [(h0, .inr (4, [.int v0_0, .int v0_1, .ref r0_2, .ref r0_3, .ref r0_4, .ref r0_5, .ref r0_6, .ref r0_7, .ref r0_8, .ref r0_9])), (r0_9, .inl (k1, 28, .inl f1))]) [0, 1] (by decide) rfl
    have hK9 := hK.sub (tys' := [(k1, .int)]) [0] rfl
    rw [← hQ]
    exact W.lret (v := 0) hx hb hr (fun t ht hW => ⟨⟨0, ((fun k => ([] : List Int32).getD k 0), (fun k => ([] : List (Nat → Int32)).getD k (fun _ => 0)), (fun k => ([] : List (Nat → Int64)).getD k (fun _ => 0))), rfl, trivial, by rw [ht]; exact hP9, va_K.moved hW.alike hK9, hD9⟩, hS.F ht⟩) hS.2.2 dX4_amountOf_36
  have oc_3 := zk_nlt rfl (by decide +kernel : (0 : Int32).toInt = 0) c_3
  refine lv_iload_n hx hb dX4_amountOf_16 rfl (lv_at hl 2 rfl) ?_
  refine lv_iconst (v := 2) hx hb dX4_amountOf_17 (by decide +kernel) ?_
  refine lv_icmp_ge (tgt := 35) hx hb dX4_amountOf_18 (by decide) (fun c_4 => ?_) (fun c_4 => ?_)
  · have oc_4 := zk_le (by decide +kernel : (2 : Int32).toInt = 2) rfl c_4
    refine lv_lconst (v := 0) hx hb dX4_amountOf_35 (by decide +kernel) ?_
    have hP9 := hP.sub (ws' := [(h0, .inr (4, [.int v0_0, .int v0_1, .ref r0_2, .ref r0_3, .ref r0_4, .ref r0_5, .ref r0_6, .ref r0_7, .ref r0_8, .ref r0_9])), (r0_9, .inl (k1, 28, .inl f1))]) [0, 1] rfl
    have hD9 := hD.sub (ws' := [(h0, .inr (4, [.int v0_0, .int v0_1, .ref r0_2, .ref r0_3, .ref r0_4, .ref r0_5, .ref r0_6, .ref r0_7, .ref r0_8, .ref r0_9])), (r0_9, .inl (k1, 28, .inl f1))]) [0, 1] (by decide) rfl
    have hK9 := hK.sub (tys' := [(k1, .int)]) [0] rfl
    rw [← hQ]
    exact W.lret (v := 0) hx hb hr (fun t ht hW => ⟨⟨0, ((fun k => ([] : List Int32).getD k 0), (fun k => ([] : List (Nat → Int32)).getD k (fun _ => 0)), (fun k => ([] : List (Nat → Int64)).getD k (fun _ => 0))), rfl, trivial, by rw [ht]; exact hP9, va_K.moved hW.alike hK9, hD9⟩, hS.F ht⟩) hS.2.2 dX4_amountOf_36
  have oc_4 := zk_nle (by decide +kernel : (2 : Int32).toInt = 2) rfl c_4
  refine lv_aload_n hx hb dX4_amountOf_21 rfl (lv_at hl 0 rfl) ?_
  refine va_get (D := (dC, dI)) (ci := 4) (v := .ref r0_9) (C := RX4) (T := TX4) (N := 10) hx hb hts zn_X4_amountOf_X4 hown hK hP 0 rfl rfl 9 (by decide) (hts (.fieldLink RX4 33 "ShortEnough$Numbers" "amount" "[I") zw_X4_amountOf_11) (fun _ h9 => h9) rfl dX4_amountOf_22 ?_
  refine lv_iconst (v := 2) hx hb dX4_amountOf_25 (by decide +kernel) ?_
  refine lv_iload_n hx hb dX4_amountOf_26 rfl (lv_at hl 1 rfl) ?_
  refine lv_imul hx hb dX4_amountOf_27 ?_
  refine lv_topi (fun x_5 ex_5 => ?_)
  have hx_5 := zo_mul ex_5 (by decide +kernel : (2 : Int32).toInt = 2) rfl (by omega)
  refine lv_iload_n hx hb dX4_amountOf_28 rfl (lv_at hl 2 rfl) ?_
  refine lv_iadd hx hb dX4_amountOf_29 ?_
  refine lv_topi (fun x_6 ex_6 => ?_)
  have hx_6 := zo_add ex_6 rfl rfl (by omega)
  refine va_iald hx hb hK hP 1 0 rfl rfl (vp_in_iff.mpr ⟨by omega, by omega⟩) dX4_amountOf_30 ?_
  refine lv_topi (fun x_7 ex_7 => ?_)
  have tt_8 := Int32.toInt_toInt64 x_7
  refine lv_i2l (v := x_7.toInt64) hx hb dX4_amountOf_31 rfl ?_
  refine lv_goto (tgt := 36) hx hb dX4_amountOf_32 (by decide) ?_
  have hP9 := hP.sub (ws' := [(h0, .inr (4, [.int v0_0, .int v0_1, .ref r0_2, .ref r0_3, .ref r0_4, .ref r0_5, .ref r0_6, .ref r0_7, .ref r0_8, .ref r0_9])), (r0_9, .inl (k1, 28, .inl f1))]) [0, 1] rfl
  have hD9 := hD.sub (ws' := [(h0, .inr (4, [.int v0_0, .int v0_1, .ref r0_2, .ref r0_3, .ref r0_4, .ref r0_5, .ref r0_6, .ref r0_7, .ref r0_8, .ref r0_9])), (r0_9, .inl (k1, 28, .inl f1))]) [0, 1] (by decide) rfl
  have hK9 := hK.sub (tys' := [(k1, .int)]) [0] rfl
  rw [← hQ]
  exact W.lret (v := x_7.toInt64) hx hb hr (fun t ht hW => ⟨⟨x_7.toInt64, ((fun k => ([] : List Int32).getD k 0), (fun k => ([] : List (Nat → Int32)).getD k (fun _ => 0)), (fun k => ([] : List (Nat → Int64)).getD k (fun _ => 0))), rfl, trivial, by rw [ht]; exact hP9, va_K.moved hW.alike hK9, hD9⟩, hS.F ht⟩) hS.2.2 dX4_amountOf_36
set_option maxHeartbeats 4000000 in
set_option maxRecDepth 100000 in
theorem zs_X4_countAnswers (l : Launch) (dC : Nat → ClassId) (dI : Nat → Nat → Nat) (h0 : Nat) (p1 : Int32) (v0_0 : Int32) (v0_1 : Int32) (r0_2 : Nat) (r0_3 : Nat) (r0_4 : Nat) (r0_5 : Nat) (r0_6 : Nat) (r0_7 : Nat) (r0_8 : Nat) (r0_9 : Nat) (k1 : Nat) (f1 : Nat → Int32) (hq_v0_0 : (0 : Int) ≤ v0_0.toInt ∧ v0_0.toInt ≤ 14) (sz : Nat) : Met l yX4_countAnswers wsX4_countAnswers ({ frames := 0, cells := 0, slots := 0, locals := 0 }) (va_Pc [.ref h0, .int p1] (fun U => U.heap.size = sz ∧ va_P (dC, dI) vwCl [(h0, .inr (4, [.int v0_0, .int v0_1, .ref r0_2, .ref r0_3, .ref r0_4, .ref r0_5, .ref r0_6, .ref r0_7, .ref r0_8, .ref r0_9])), (r0_5, .inl (k1, 14, .inl f1))] U.heap ∧ va_K (dC, dI) vwCl [(k1, .int)] U ∧ va_D (fun _ => True) [(h0, .inr (4, [.int v0_0, .int v0_1, .ref r0_2, .ref r0_3, .ref r0_4, .ref r0_5, .ref r0_6, .ref r0_7, .ref r0_8, .ref r0_9])), (r0_5, .inl (k1, 14, .inl f1))])) (va_Qi (fun (r : Int32) (u : zV) => ((0 : Int) ≤ r.toInt ∧ r.toInt ≤ 14) ∧ True) (fun u t => va_P (dC, dI) vwCl [(h0, .inr (4, [.int v0_0, .int v0_1, .ref r0_2, .ref r0_3, .ref r0_4, .ref r0_5, .ref r0_6, .ref r0_7, .ref r0_8, .ref r0_9])), (r0_5, .inl (k1, 14, .inl f1))] t.heap ∧ va_K (dC, dI) vwCl [(k1, .int)] t ∧ va_D (va_A [(h0, .inr (4, [.int v0_0, .int v0_1, .ref r0_2, .ref r0_3, .ref r0_4, .ref r0_5, .ref r0_6, .ref r0_7, .ref r0_8, .ref r0_9])), (r0_5, .inl (k1, 14, .inl f1))] sz) [(h0, .inr (4, [.int v0_0, .int v0_1, .ref r0_2, .ref r0_3, .ref r0_4, .ref r0_5, .ref r0_6, .ref r0_7, .ref r0_8, .ref r0_9])), (r0_5, .inl (k1, 14, .inl f1))]) (va_A [(h0, .inr (4, [.int v0_0, .int v0_1, .ref r0_2, .ref r0_3, .ref r0_4, .ref r0_5, .ref r0_6, .ref r0_7, .ref r0_8, .ref r0_9])), (r0_5, .inl (k1, 14, .inl f1))] sz)) 0 0 (va_A [(h0, .inr (4, [.int v0_0, .int v0_1, .ref r0_2, .ref r0_3, .ref r0_4, .ref r0_5, .ref r0_6, .ref r0_7, .ref r0_8, .ref r0_9])), (r0_5, .inl (k1, 14, .inl f1))] sz) := by
  refine Met.ofW (cc := cX4_countAnswers) (maxL := 4) (ret := (some .int)) (by decide +kernel) rfl ?_
  intro p e s m args below meth c s₁ B hml hv
  obtain ⟨rfl, hsz, hP, hK, hD0⟩ := hv
  have hx := B.exec
  have hb := B.bytes
  have hr := B.returns
  have hts := atoms_spec (ws := wsX4_countAnswers) B.pre
  have hown : s.vm.findClass RX4 = some m.cls := findClass_of_methodNamed B.named
  have hlocks := B.notSynchronized
  subst hsz
  have hD := hD0.self (sz := s.heap.size)
  generalize hAe : va_A [(h0, .inr (4, [.int v0_0, .int v0_1, .ref r0_2, .ref r0_3, .ref r0_4, .ref r0_5, .ref r0_6, .ref r0_7, .ref r0_8, .ref r0_9])), (r0_5, .inl (k1, 14, .inl f1))] s.heap.size = A at hD ⊢
  have hA : ∀ q : Nat, s.heap.size ≤ q → A q := fun q h => by rw [← hAe]; exact Or.inr h
  have hS : va_S A s.heap s.heap [] := va_S.rf
  have hP : va_P (dC, dI) vwCl [(h0, .inr (4, [.int v0_0, .int v0_1, .ref r0_2, .ref r0_3, .ref r0_4, .ref r0_5, .ref r0_6, .ref r0_7, .ref r0_8, .ref r0_9])), (r0_5, .inl (k1, 14, .inl f1))] s.heap := hP
  have hl := lv_entry ([.ref h0, .int p1]) (n := 4) (Nat.le_of_ble_eq_true rfl)
  rw [lg_entry_eq]
  generalize (lg_sl ([.ref h0, .int p1]) ++ List.replicate (4 - (lg_sl ([.ref h0, .int p1])).length) Slot.unset).toArray = ls at hl ⊢
  have hl : lv_has ls 4 [(0, .ref h0), (1, .int p1)] := hl
  generalize hQ : MQ below (va_Qi (fun (r : Int32) (u : zV) => ((0 : Int) ≤ r.toInt ∧ r.toInt ≤ 14) ∧ True) (fun u t => va_P (dC, dI) vwCl [(h0, .inr (4, [.int v0_0, .int v0_1, .ref r0_2, .ref r0_3, .ref r0_4, .ref r0_5, .ref r0_6, .ref r0_7, .ref r0_8, .ref r0_9])), (r0_5, .inl (k1, 14, .inl f1))] t.heap ∧ va_K (dC, dI) vwCl [(k1, .int)] t ∧ va_D A [(h0, .inr (4, [.int v0_0, .int v0_1, .ref r0_2, .ref r0_3, .ref r0_4, .ref r0_5, .ref r0_6, .ref r0_7, .ref r0_8, .ref r0_9])), (r0_5, .inl (k1, 14, .inl f1))]) A) ([.ref h0, .int p1] : List Value).toArray s 0 0 A = Q
  refine lv_iconst (v := 0) hx hb dX4_countAnswers_0 (by decide +kernel) ?_
  refine lv_istore_n (lv' := [(2, .int 0), (0, .ref h0), (1, .int p1)]) hx hb dX4_countAnswers_1 rfl hl (by decide) rfl (fun ls hl => ?_)
  refine lv_iconst (v := 0) hx hb dX4_countAnswers_2 (by decide +kernel) ?_
  refine lv_istore_n (lv' := [(3, .int 0), (2, .int 0), (0, .ref h0), (1, .int p1)]) hx hb dX4_countAnswers_3 rfl hl (by decide) rfl (fun ls hl => ?_)
  have lp4 : ∀ (n : Nat) (y4_2 : Int32) (y4_3 : Int32) (H : Heap) (locs : List Loc) (ls : Array Slot), (0 : Int) ≤ y4_2.toInt + (0) → (0 : Int) ≤ y4_3.toInt + (0) → (y4_2.toInt : Int) ≤ 0 + (14) → (y4_2.toInt : Int) ≤ v0_0.toInt + (0) → (y4_2.toInt : Int) ≤ y4_3.toInt + (0) → (y4_3.toInt : Int) ≤ 0 + (14) → (y4_3.toInt : Int) ≤ v0_0.toInt + (0) → 15 - y4_3.toInt < n → va_P (dC, dI) vwCl [(h0, .inr (4, [.int v0_0, .int v0_1, .ref r0_2, .ref r0_3, .ref r0_4, .ref r0_5, .ref r0_6, .ref r0_7, .ref r0_8, .ref r0_9])), (r0_5, .inl (k1, 14, .inl f1))] H → va_D A [(h0, .inr (4, [.int v0_0, .int v0_1, .ref r0_2, .ref r0_3, .ref r0_4, .ref r0_5, .ref r0_6, .ref r0_7, .ref r0_8, .ref r0_9])), (r0_5, .inl (k1, 14, .inl f1))] → va_S A s.heap H locs → lv_has ls 4 [(3, .int y4_3), (2, .int y4_2), (0, .ref h0), (1, .int p1)] → W p l e (headSpec wsX4_countAnswers ({ frames := 0, cells := 0, slots := 0, locals := 0 })).room s m ([.ref h0, .int p1] : List Value).toArray below meth c H locs 0 0 Q (F0 m 4 ls []) := by
    intro n
    induction n with
    | zero =>
      intro y4_2 y4_3 H locs ls hz4_0 hz4_1 hz4_2 hz4_3 hz4_4 hz4_5 hz4_6  hmeas hP hD hS hl
      exfalso; omega
    | succ n ih4 =>
      intro y4_2 y4_3 H locs ls hz4_0 hz4_1 hz4_2 hz4_3 hz4_4 hz4_5 hz4_6  hmeas hP hD hS hl
      refine lv_iload_n hx hb dX4_countAnswers_4 rfl (lv_at hl 0 rfl) ?_
      refine lv_iload_n hx hb dX4_countAnswers_5 rfl (lv_at hl 3 rfl) ?_
      refine lv_icmp_ge (tgt := 41) hx hb dX4_countAnswers_6 (by decide) (fun c_1 => ?_) (fun c_1 => ?_)
      · have oc_1 := zk_le rfl rfl c_1
        refine lv_iload_n hx hb dX4_countAnswers_41 rfl (lv_at hl 1 rfl) ?_
        have hP9 := hP.sub (ws' := [(h0, .inr (4, [.int v0_0, .int v0_1, .ref r0_2, .ref r0_3, .ref r0_4, .ref r0_5, .ref r0_6, .ref r0_7, .ref r0_8, .ref r0_9])), (r0_5, .inl (k1, 14, .inl f1))]) [0, 1] rfl
        have hD9 := hD.sub (ws' := [(h0, .inr (4, [.int v0_0, .int v0_1, .ref r0_2, .ref r0_3, .ref r0_4, .ref r0_5, .ref r0_6, .ref r0_7, .ref r0_8, .ref r0_9])), (r0_5, .inl (k1, 14, .inl f1))]) [0, 1] (by decide) rfl
        have hK9 := hK.sub (tys' := [(k1, .int)]) [0] rfl
        rw [← hQ]
        exact W.iret (v := y4_2) hx hb hr (fun t ht hW => ⟨⟨y4_2, ((fun k => ([] : List Int32).getD k 0), (fun k => ([] : List (Nat → Int32)).getD k (fun _ => 0)), (fun k => ([] : List (Nat → Int64)).getD k (fun _ => 0))), rfl, ⟨(show (0 : Int) ≤ (y4_2 : Int32).toInt ∧ (y4_2 : Int32).toInt ≤ 14 by omega), trivial⟩, by rw [ht]; exact hP9, va_K.moved hW.alike hK9, hD9⟩, hS.F ht⟩) hS.2.2 dX4_countAnswers_42
      have oc_1 := zk_nle rfl rfl c_1
      refine lv_iload_n hx hb dX4_countAnswers_9 rfl (lv_at hl 0 rfl) ?_
      refine lv_aload_n hx hb dX4_countAnswers_10 rfl (lv_at hl 2 rfl) ?_
      refine va_get (D := (dC, dI)) (ci := 4) (v := .int v0_0) (C := RX4) (T := TX4) (N := 10) hx hb hts zn_X4_countAnswers_X4 hown hK hP 0 rfl rfl 0 (by decide) (hts (.fieldLink RX4 36 "ShortEnough$Numbers" "count" "I") zw_X4_countAnswers_13) (fun _ h9 => h9) rfl dX4_countAnswers_11 ?_
      refine lv_icmp_ge (tgt := 41) hx hb dX4_countAnswers_14 (by decide) (fun c_2 => ?_) (fun c_2 => ?_)
      · have oc_2 := zk_le rfl rfl c_2
        refine lv_iload_n hx hb dX4_countAnswers_41 rfl (lv_at hl 1 rfl) ?_
        have hP9 := hP.sub (ws' := [(h0, .inr (4, [.int v0_0, .int v0_1, .ref r0_2, .ref r0_3, .ref r0_4, .ref r0_5, .ref r0_6, .ref r0_7, .ref r0_8, .ref r0_9])), (r0_5, .inl (k1, 14, .inl f1))]) [0, 1] rfl
        have hD9 := hD.sub (ws' := [(h0, .inr (4, [.int v0_0, .int v0_1, .ref r0_2, .ref r0_3, .ref r0_4, .ref r0_5, .ref r0_6, .ref r0_7, .ref r0_8, .ref r0_9])), (r0_5, .inl (k1, 14, .inl f1))]) [0, 1] (by decide) rfl
        have hK9 := hK.sub (tys' := [(k1, .int)]) [0] rfl
        rw [← hQ]
        exact W.iret (v := y4_2) hx hb hr (fun t ht hW => ⟨⟨y4_2, ((fun k => ([] : List Int32).getD k 0), (fun k => ([] : List (Nat → Int32)).getD k (fun _ => 0)), (fun k => ([] : List (Nat → Int64)).getD k (fun _ => 0))), rfl, ⟨(show (0 : Int) ≤ (y4_2 : Int32).toInt ∧ (y4_2 : Int32).toInt ≤ 14 by omega), trivial⟩, by rw [ht]; exact hP9, va_K.moved hW.alike hK9, hD9⟩, hS.F ht⟩) hS.2.2 dX4_countAnswers_42
      have oc_2 := zk_nle rfl rfl c_2
      refine lv_iload_n hx hb dX4_countAnswers_17 rfl (lv_at hl 1 rfl) ?_
      refine lv_aload_n hx hb dX4_countAnswers_18 rfl (lv_at hl 2 rfl) ?_
      refine va_get (D := (dC, dI)) (ci := 4) (v := .ref r0_5) (C := RX4) (T := TX4) (N := 10) hx hb hts zn_X4_countAnswers_X4 hown hK hP 0 rfl rfl 5 (by decide) (hts (.fieldLink RX4 21 "ShortEnough$Numbers" "allowed" "[I") zw_X4_countAnswers_14) (fun _ h9 => h9) rfl dX4_countAnswers_19 ?_
      refine lv_iload_n hx hb dX4_countAnswers_22 rfl (lv_at hl 0 rfl) ?_
      refine va_iald hx hb hK hP 1 0 rfl rfl (vp_in_iff.mpr ⟨by omega, by omega⟩) dX4_countAnswers_23 ?_
      refine lv_topi (fun x_3 ex_3 => ?_)
      refine lv_iconst (v := (-1)) hx hb dX4_countAnswers_24 (by decide +kernel) ?_
      refine lv_icmp_eq (tgt := 32) hx hb dX4_countAnswers_25 (by decide) (fun c_4 => ?_) (fun c_4 => ?_)
      · have oc_4 := zk_eq rfl (by decide +kernel : ((-1) : Int32).toInt = -1) c_4
        refine lv_iconst (v := 0) hx hb dX4_countAnswers_32 (by decide +kernel) ?_
        refine lv_iadd hx hb dX4_countAnswers_33 ?_
        refine lv_topi (fun x_5 ex_5 => ?_)
        have hx_5 := zo_add ex_5 rfl (by decide +kernel : (0 : Int32).toInt = 0) (by omega)
        refine lv_istore_n (lv' := [(2, .int x_5), (3, .int y4_3), (0, .ref h0), (1, .int p1)]) hx hb dX4_countAnswers_34 rfl hl (by decide) rfl (fun ls hl => ?_)
        obtain ⟨x_6, ex_6⟩ : ∃ y : Int32, y = y4_3 + 1 := ⟨_, rfl⟩
        refine lv_iinc (v := x_6) (lv' := [(3, .int x_6), (2, .int x_5), (0, .ref h0), (1, .int p1)]) hx hb dX4_countAnswers_35 hl (k := 1) rfl (by rw [ex_6]; rfl) (by decide) rfl (fun ls hl => ?_)
        have hx_6 := zo_add ex_6 rfl (by decide +kernel : (1 : Int32).toInt = 1) (by omega)
        refine lv_goto (tgt := 4) hx hb dX4_countAnswers_38 (by decide) ?_
        exact ih4  x_5 x_6 H locs ls (by omega) (by omega) (by omega) (by omega) (by omega) (by omega) (by omega)  (by omega) hP hD hS (lv_sub hl [0, 1, 2, 3] rfl)
      have oc_4 := zk_ne rfl (by decide +kernel : ((-1) : Int32).toInt = -1) c_4
      refine lv_iconst (v := 1) hx hb dX4_countAnswers_28 (by decide +kernel) ?_
      refine lv_goto (tgt := 33) hx hb dX4_countAnswers_29 (by decide) ?_
      refine lv_iadd hx hb dX4_countAnswers_33 ?_
      refine lv_topi (fun x_7 ex_7 => ?_)
      have hx_7 := zo_add ex_7 rfl (by decide +kernel : (1 : Int32).toInt = 1) (by omega)
      refine lv_istore_n (lv' := [(2, .int x_7), (3, .int y4_3), (0, .ref h0), (1, .int p1)]) hx hb dX4_countAnswers_34 rfl hl (by decide) rfl (fun ls hl => ?_)
      obtain ⟨x_8, ex_8⟩ : ∃ y : Int32, y = y4_3 + 1 := ⟨_, rfl⟩
      refine lv_iinc (v := x_8) (lv' := [(3, .int x_8), (2, .int x_7), (0, .ref h0), (1, .int p1)]) hx hb dX4_countAnswers_35 hl (k := 1) rfl (by rw [ex_8]; rfl) (by decide) rfl (fun ls hl => ?_)
      have hx_8 := zo_add ex_8 rfl (by decide +kernel : (1 : Int32).toInt = 1) (by omega)
      refine lv_goto (tgt := 4) hx hb dX4_countAnswers_38 (by decide) ?_
      exact ih4  x_7 x_8 H locs ls (by omega) (by omega) (by omega) (by omega) (by omega) (by omega) (by omega)  (by omega) hP hD hS (lv_sub hl [0, 1, 2, 3] rfl)
  have kk0 : (0 : Int32).toInt = 0 := (by decide +kernel)
  exact lp4 ((15 - (0 : Int32).toInt).toNat + 1) 0 0 s.heap [] ls (by omega) (by omega) (by omega) (by omega) (by omega) (by omega) (by omega)  (by omega) hP hD hS (lv_sub hl [0, 1, 2, 3] rfl)
set_option maxHeartbeats 4000000 in
set_option maxRecDepth 100000 in
theorem zs_X4_find (l : Launch) (dC : Nat → ClassId) (dI : Nat → Nat → Nat) (h0 : Nat) (p1 : Int32) (v0_0 : Int32) (v0_1 : Int32) (r0_2 : Nat) (r0_3 : Nat) (r0_4 : Nat) (r0_5 : Nat) (r0_6 : Nat) (r0_7 : Nat) (r0_8 : Nat) (r0_9 : Nat) (k1 : Nat) (f1 : Nat → Int32) (hq_v0_0 : (0 : Int) ≤ v0_0.toInt ∧ v0_0.toInt ≤ 14) (sz : Nat) : Met l yX4_find wsX4_find ({ frames := 0, cells := 0, slots := 0, locals := 0 }) (va_Pc [.ref h0, .int p1] (fun U => U.heap.size = sz ∧ va_P (dC, dI) vwCl [(h0, .inr (4, [.int v0_0, .int v0_1, .ref r0_2, .ref r0_3, .ref r0_4, .ref r0_5, .ref r0_6, .ref r0_7, .ref r0_8, .ref r0_9])), (r0_2, .inl (k1, 14, .inl f1))] U.heap ∧ va_K (dC, dI) vwCl [(k1, .int)] U ∧ va_D (fun _ => True) [(h0, .inr (4, [.int v0_0, .int v0_1, .ref r0_2, .ref r0_3, .ref r0_4, .ref r0_5, .ref r0_6, .ref r0_7, .ref r0_8, .ref r0_9])), (r0_2, .inl (k1, 14, .inl f1))])) (va_Qi (fun (r : Int32) (u : zV) => ((-1 : Int) ≤ r.toInt ∧ r.toInt ≤ 13) ∧ (r.toInt = -1 ∨ ((0 : Int) ≤ v0_0.toInt + (-1))) ∧ True) (fun u t => va_P (dC, dI) vwCl [(h0, .inr (4, [.int v0_0, .int v0_1, .ref r0_2, .ref r0_3, .ref r0_4, .ref r0_5, .ref r0_6, .ref r0_7, .ref r0_8, .ref r0_9])), (r0_2, .inl (k1, 14, .inl f1))] t.heap ∧ va_K (dC, dI) vwCl [(k1, .int)] t ∧ va_D (va_A [(h0, .inr (4, [.int v0_0, .int v0_1, .ref r0_2, .ref r0_3, .ref r0_4, .ref r0_5, .ref r0_6, .ref r0_7, .ref r0_8, .ref r0_9])), (r0_2, .inl (k1, 14, .inl f1))] sz) [(h0, .inr (4, [.int v0_0, .int v0_1, .ref r0_2, .ref r0_3, .ref r0_4, .ref r0_5, .ref r0_6, .ref r0_7, .ref r0_8, .ref r0_9])), (r0_2, .inl (k1, 14, .inl f1))]) (va_A [(h0, .inr (4, [.int v0_0, .int v0_1, .ref r0_2, .ref r0_3, .ref r0_4, .ref r0_5, .ref r0_6, .ref r0_7, .ref r0_8, .ref r0_9])), (r0_2, .inl (k1, 14, .inl f1))] sz)) 0 0 (va_A [(h0, .inr (4, [.int v0_0, .int v0_1, .ref r0_2, .ref r0_3, .ref r0_4, .ref r0_5, .ref r0_6, .ref r0_7, .ref r0_8, .ref r0_9])), (r0_2, .inl (k1, 14, .inl f1))] sz) := by
  refine Met.ofW (cc := cX4_find) (maxL := 3) (ret := (some .int)) (by decide +kernel) rfl ?_
  intro p e s m args below meth c s₁ B hml hv
  obtain ⟨rfl, hsz, hP, hK, hD0⟩ := hv
  have hx := B.exec
  have hb := B.bytes
  have hr := B.returns
  have hts := atoms_spec (ws := wsX4_find) B.pre
  have hown : s.vm.findClass RX4 = some m.cls := findClass_of_methodNamed B.named
  have hlocks := B.notSynchronized
  subst hsz
  have hD := hD0.self (sz := s.heap.size)
  generalize hAe : va_A [(h0, .inr (4, [.int v0_0, .int v0_1, .ref r0_2, .ref r0_3, .ref r0_4, .ref r0_5, .ref r0_6, .ref r0_7, .ref r0_8, .ref r0_9])), (r0_2, .inl (k1, 14, .inl f1))] s.heap.size = A at hD ⊢
  have hA : ∀ q : Nat, s.heap.size ≤ q → A q := fun q h => by rw [← hAe]; exact Or.inr h
  have hS : va_S A s.heap s.heap [] := va_S.rf
  have hP : va_P (dC, dI) vwCl [(h0, .inr (4, [.int v0_0, .int v0_1, .ref r0_2, .ref r0_3, .ref r0_4, .ref r0_5, .ref r0_6, .ref r0_7, .ref r0_8, .ref r0_9])), (r0_2, .inl (k1, 14, .inl f1))] s.heap := hP
  have hl := lv_entry ([.ref h0, .int p1]) (n := 3) (Nat.le_of_ble_eq_true rfl)
  rw [lg_entry_eq]
  generalize (lg_sl ([.ref h0, .int p1]) ++ List.replicate (3 - (lg_sl ([.ref h0, .int p1])).length) Slot.unset).toArray = ls at hl ⊢
  have hl : lv_has ls 3 [(0, .ref h0), (1, .int p1)] := hl
  generalize hQ : MQ below (va_Qi (fun (r : Int32) (u : zV) => ((-1 : Int) ≤ r.toInt ∧ r.toInt ≤ 13) ∧ (r.toInt = -1 ∨ ((0 : Int) ≤ v0_0.toInt + (-1))) ∧ True) (fun u t => va_P (dC, dI) vwCl [(h0, .inr (4, [.int v0_0, .int v0_1, .ref r0_2, .ref r0_3, .ref r0_4, .ref r0_5, .ref r0_6, .ref r0_7, .ref r0_8, .ref r0_9])), (r0_2, .inl (k1, 14, .inl f1))] t.heap ∧ va_K (dC, dI) vwCl [(k1, .int)] t ∧ va_D A [(h0, .inr (4, [.int v0_0, .int v0_1, .ref r0_2, .ref r0_3, .ref r0_4, .ref r0_5, .ref r0_6, .ref r0_7, .ref r0_8, .ref r0_9])), (r0_2, .inl (k1, 14, .inl f1))]) A) ([.ref h0, .int p1] : List Value).toArray s 0 0 A = Q
  refine lv_iconst (v := 0) hx hb dX4_find_0 (by decide +kernel) ?_
  refine lv_istore_n (lv' := [(2, .int 0), (0, .ref h0), (1, .int p1)]) hx hb dX4_find_1 rfl hl (by decide) rfl (fun ls hl => ?_)
  have lp2 : ∀ (n : Nat) (y2_2 : Int32) (H : Heap) (locs : List Loc) (ls : Array Slot), (0 : Int) ≤ y2_2.toInt + (0) → (y2_2.toInt : Int) ≤ 0 + (14) → (y2_2.toInt : Int) ≤ v0_0.toInt + (0) → 15 - y2_2.toInt < n → va_P (dC, dI) vwCl [(h0, .inr (4, [.int v0_0, .int v0_1, .ref r0_2, .ref r0_3, .ref r0_4, .ref r0_5, .ref r0_6, .ref r0_7, .ref r0_8, .ref r0_9])), (r0_2, .inl (k1, 14, .inl f1))] H → va_D A [(h0, .inr (4, [.int v0_0, .int v0_1, .ref r0_2, .ref r0_3, .ref r0_4, .ref r0_5, .ref r0_6, .ref r0_7, .ref r0_8, .ref r0_9])), (r0_2, .inl (k1, 14, .inl f1))] → va_S A s.heap H locs → lv_has ls 3 [(2, .int y2_2), (0, .ref h0), (1, .int p1)] → W p l e (headSpec wsX4_find ({ frames := 0, cells := 0, slots := 0, locals := 0 })).room s m ([.ref h0, .int p1] : List Value).toArray below meth c H locs 0 0 Q (F0 m 2 ls []) := by
    intro n
    induction n with
    | zero =>
      intro y2_2 H locs ls hz2_0 hz2_1 hz2_2  hmeas hP hD hS hl
      exfalso; omega
    | succ n ih2 =>
      intro y2_2 H locs ls hz2_0 hz2_1 hz2_2  hmeas hP hD hS hl
      refine lv_iload_n hx hb dX4_find_2 rfl (lv_at hl 0 rfl) ?_
      refine lv_aload_n hx hb dX4_find_3 rfl (lv_at hl 1 rfl) ?_
      refine va_get (D := (dC, dI)) (ci := 4) (v := .int v0_0) (C := RX4) (T := TX4) (N := 10) hx hb hts zn_X4_find_X4 hown hK hP 0 rfl rfl 0 (by decide) (hts (.fieldLink RX4 36 "ShortEnough$Numbers" "count" "I") zw_X4_find_16) (fun _ h9 => h9) rfl dX4_find_4 ?_
      refine lv_icmp_ge (tgt := 28) hx hb dX4_find_7 (by decide) (fun c_1 => ?_) (fun c_1 => ?_)
      · have oc_1 := zk_le rfl rfl c_1
        refine lv_iconst (v := (-1)) hx hb dX4_find_28 (by decide +kernel) ?_
        have hP9 := hP.sub (ws' := [(h0, .inr (4, [.int v0_0, .int v0_1, .ref r0_2, .ref r0_3, .ref r0_4, .ref r0_5, .ref r0_6, .ref r0_7, .ref r0_8, .ref r0_9])), (r0_2, .inl (k1, 14, .inl f1))]) [0, 1] rfl
        have hD9 := hD.sub (ws' := [(h0, .inr (4, [.int v0_0, .int v0_1, .ref r0_2, .ref r0_3, .ref r0_4, .ref r0_5, .ref r0_6, .ref r0_7, .ref r0_8, .ref r0_9])), (r0_2, .inl (k1, 14, .inl f1))]) [0, 1] (by decide) rfl
        have hK9 := hK.sub (tys' := [(k1, .int)]) [0] rfl
        rw [← hQ]
        exact W.iret (v := (-1)) hx hb hr (fun t ht hW => ⟨⟨(-1), ((fun k => ([] : List Int32).getD k 0), (fun k => ([] : List (Nat → Int32)).getD k (fun _ => 0)), (fun k => ([] : List (Nat → Int64)).getD k (fun _ => 0))), rfl, ⟨(show (-1 : Int) ≤ ((-1) : Int32).toInt ∧ ((-1) : Int32).toInt ≤ 13 by decide +kernel), (show (((-1) : Int32).toInt = -1 ∨ ((0 : Int) ≤ v0_0.toInt + (-1))) by exact Or.inl (by decide +kernel)), trivial⟩, by rw [ht]; exact hP9, va_K.moved hW.alike hK9, hD9⟩, hS.F ht⟩) hS.2.2 dX4_find_29
      have oc_1 := zk_nle rfl rfl c_1
      refine lv_aload_n hx hb dX4_find_10 rfl (lv_at hl 1 rfl) ?_
      refine va_get (D := (dC, dI)) (ci := 4) (v := .ref r0_2) (C := RX4) (T := TX4) (N := 10) hx hb hts zn_X4_find_X4 hown hK hP 0 rfl rfl 2 (by decide) (hts (.fieldLink RX4 9 "ShortEnough$Numbers" "name" "[I") zw_X4_find_17) (fun _ h9 => h9) rfl dX4_find_11 ?_
      refine lv_iload_n hx hb dX4_find_14 rfl (lv_at hl 0 rfl) ?_
      refine va_iald hx hb hK hP 1 0 rfl rfl (vp_in_iff.mpr ⟨by omega, by omega⟩) dX4_find_15 ?_
      refine lv_topi (fun x_2 ex_2 => ?_)
      refine lv_iload_n hx hb dX4_find_16 rfl (lv_at hl 2 rfl) ?_
      refine lv_icmp_ne (tgt := 22) hx hb dX4_find_17 (by decide) (fun c_3 => ?_) (fun c_3 => ?_)
      · have oc_3 := zk_ne rfl rfl c_3
        obtain ⟨x_4, ex_4⟩ : ∃ y : Int32, y = y2_2 + 1 := ⟨_, rfl⟩
        refine lv_iinc (v := x_4) (lv' := [(2, .int x_4), (0, .ref h0), (1, .int p1)]) hx hb dX4_find_22 hl (k := 0) rfl (by rw [ex_4]; rfl) (by decide) rfl (fun ls hl => ?_)
        have hx_4 := zo_add ex_4 rfl (by decide +kernel : (1 : Int32).toInt = 1) (by omega)
        refine lv_goto (tgt := 2) hx hb dX4_find_25 (by decide) ?_
        exact ih2  x_4 H locs ls (by omega) (by omega) (by omega)  (by omega) hP hD hS (lv_sub hl [0, 1, 2] rfl)
      have oc_3 := zk_eq rfl rfl c_3
      refine lv_iload_n hx hb dX4_find_20 rfl (lv_at hl 0 rfl) ?_
      have hP9 := hP.sub (ws' := [(h0, .inr (4, [.int v0_0, .int v0_1, .ref r0_2, .ref r0_3, .ref r0_4, .ref r0_5, .ref r0_6, .ref r0_7, .ref r0_8, .ref r0_9])), (r0_2, .inl (k1, 14, .inl f1))]) [0, 1] rfl
      have hD9 := hD.sub (ws' := [(h0, .inr (4, [.int v0_0, .int v0_1, .ref r0_2, .ref r0_3, .ref r0_4, .ref r0_5, .ref r0_6, .ref r0_7, .ref r0_8, .ref r0_9])), (r0_2, .inl (k1, 14, .inl f1))]) [0, 1] (by decide) rfl
      have hK9 := hK.sub (tys' := [(k1, .int)]) [0] rfl
      rw [← hQ]
      exact W.iret (v := y2_2) hx hb hr (fun t ht hW => ⟨⟨y2_2, ((fun k => ([] : List Int32).getD k 0), (fun k => ([] : List (Nat → Int32)).getD k (fun _ => 0)), (fun k => ([] : List (Nat → Int64)).getD k (fun _ => 0))), rfl, ⟨(show (-1 : Int) ≤ (y2_2 : Int32).toInt ∧ (y2_2 : Int32).toInt ≤ 13 by omega), (show ((y2_2 : Int32).toInt = -1 ∨ ((0 : Int) ≤ v0_0.toInt + (-1))) by omega), trivial⟩, by rw [ht]; exact hP9, va_K.moved hW.alike hK9, hD9⟩, hS.F ht⟩) hS.2.2 dX4_find_21
  have kk0 : (0 : Int32).toInt = 0 := (by decide +kernel)
  exact lp2 ((15 - (0 : Int32).toInt).toNat + 1) 0 s.heap [] ls (by omega) (by omega) (by omega)  (by omega) hP hD hS (lv_sub hl [0, 1, 2] rfl)
set_option maxHeartbeats 4000000 in
set_option maxRecDepth 100000 in
theorem zs_X9_findFormat (l : Launch) (dC : Nat → ClassId) (dI : Nat → Nat → Nat) (h0 : Nat) (p1 : Int32) (v0_0 : Int32) (r0_1 : Nat) (r0_2 : Nat) (r0_3 : Nat) (r0_4 : Nat) (v0_5 : Int32) (r0_6 : Nat) (r0_7 : Nat) (r0_8 : Nat) (k1 : Nat) (f1 : Nat → Int32) (hq_v0_0 : (0 : Int) ≤ v0_0.toInt ∧ v0_0.toInt ≤ 4) (sz : Nat) : Met l yX9_findFormat wsX9_findFormat ({ frames := 0, cells := 0, slots := 0, locals := 0 }) (va_Pc [.ref h0, .int p1] (fun U => U.heap.size = sz ∧ va_P (dC, dI) vwCl [(h0, .inr (9, [.int v0_0, .ref r0_1, .ref r0_2, .ref r0_3, .ref r0_4, .int v0_5, .ref r0_6, .ref r0_7, .ref r0_8])), (r0_1, .inl (k1, 4, .inl f1))] U.heap ∧ va_K (dC, dI) vwCl [(k1, .int)] U ∧ va_D (fun _ => True) [(h0, .inr (9, [.int v0_0, .ref r0_1, .ref r0_2, .ref r0_3, .ref r0_4, .int v0_5, .ref r0_6, .ref r0_7, .ref r0_8])), (r0_1, .inl (k1, 4, .inl f1))])) (va_Qi (fun (r : Int32) (u : zV) => ((-1 : Int) ≤ r.toInt ∧ r.toInt ≤ 3) ∧ (r.toInt = -1 ∨ ((0 : Int) ≤ v0_0.toInt + (-1))) ∧ True) (fun u t => va_P (dC, dI) vwCl [(h0, .inr (9, [.int v0_0, .ref r0_1, .ref r0_2, .ref r0_3, .ref r0_4, .int v0_5, .ref r0_6, .ref r0_7, .ref r0_8])), (r0_1, .inl (k1, 4, .inl f1))] t.heap ∧ va_K (dC, dI) vwCl [(k1, .int)] t ∧ va_D (va_A [(h0, .inr (9, [.int v0_0, .ref r0_1, .ref r0_2, .ref r0_3, .ref r0_4, .int v0_5, .ref r0_6, .ref r0_7, .ref r0_8])), (r0_1, .inl (k1, 4, .inl f1))] sz) [(h0, .inr (9, [.int v0_0, .ref r0_1, .ref r0_2, .ref r0_3, .ref r0_4, .int v0_5, .ref r0_6, .ref r0_7, .ref r0_8])), (r0_1, .inl (k1, 4, .inl f1))]) (va_A [(h0, .inr (9, [.int v0_0, .ref r0_1, .ref r0_2, .ref r0_3, .ref r0_4, .int v0_5, .ref r0_6, .ref r0_7, .ref r0_8])), (r0_1, .inl (k1, 4, .inl f1))] sz)) 0 0 (va_A [(h0, .inr (9, [.int v0_0, .ref r0_1, .ref r0_2, .ref r0_3, .ref r0_4, .int v0_5, .ref r0_6, .ref r0_7, .ref r0_8])), (r0_1, .inl (k1, 4, .inl f1))] sz) := by
  refine Met.ofW (cc := cX9_findFormat) (maxL := 3) (ret := (some .int)) (by decide +kernel) rfl ?_
  intro p e s m args below meth c s₁ B hml hv
  obtain ⟨rfl, hsz, hP, hK, hD0⟩ := hv
  have hx := B.exec
  have hb := B.bytes
  have hr := B.returns
  have hts := atoms_spec (ws := wsX9_findFormat) B.pre
  have hown : s.vm.findClass RX9 = some m.cls := findClass_of_methodNamed B.named
  have hlocks := B.notSynchronized
  subst hsz
  have hD := hD0.self (sz := s.heap.size)
  generalize hAe : va_A [(h0, .inr (9, [.int v0_0, .ref r0_1, .ref r0_2, .ref r0_3, .ref r0_4, .int v0_5, .ref r0_6, .ref r0_7, .ref r0_8])), (r0_1, .inl (k1, 4, .inl f1))] s.heap.size = A at hD ⊢
  have hA : ∀ q : Nat, s.heap.size ≤ q → A q := fun q h => by rw [← hAe]; exact Or.inr h
  have hS : va_S A s.heap s.heap [] := va_S.rf
  have hP : va_P (dC, dI) vwCl [(h0, .inr (9, [.int v0_0, .ref r0_1, .ref r0_2, .ref r0_3, .ref r0_4, .int v0_5, .ref r0_6, .ref r0_7, .ref r0_8])), (r0_1, .inl (k1, 4, .inl f1))] s.heap := hP
  have hl := lv_entry ([.ref h0, .int p1]) (n := 3) (Nat.le_of_ble_eq_true rfl)
  rw [lg_entry_eq]
  generalize (lg_sl ([.ref h0, .int p1]) ++ List.replicate (3 - (lg_sl ([.ref h0, .int p1])).length) Slot.unset).toArray = ls at hl ⊢
  have hl : lv_has ls 3 [(0, .ref h0), (1, .int p1)] := hl
  generalize hQ : MQ below (va_Qi (fun (r : Int32) (u : zV) => ((-1 : Int) ≤ r.toInt ∧ r.toInt ≤ 3) ∧ (r.toInt = -1 ∨ ((0 : Int) ≤ v0_0.toInt + (-1))) ∧ True) (fun u t => va_P (dC, dI) vwCl [(h0, .inr (9, [.int v0_0, .ref r0_1, .ref r0_2, .ref r0_3, .ref r0_4, .int v0_5, .ref r0_6, .ref r0_7, .ref r0_8])), (r0_1, .inl (k1, 4, .inl f1))] t.heap ∧ va_K (dC, dI) vwCl [(k1, .int)] t ∧ va_D A [(h0, .inr (9, [.int v0_0, .ref r0_1, .ref r0_2, .ref r0_3, .ref r0_4, .int v0_5, .ref r0_6, .ref r0_7, .ref r0_8])), (r0_1, .inl (k1, 4, .inl f1))]) A) ([.ref h0, .int p1] : List Value).toArray s 0 0 A = Q
  refine lv_iconst (v := 0) hx hb dX9_findFormat_0 (by decide +kernel) ?_
  refine lv_istore_n (lv' := [(2, .int 0), (0, .ref h0), (1, .int p1)]) hx hb dX9_findFormat_1 rfl hl (by decide) rfl (fun ls hl => ?_)
  have lp2 : ∀ (n : Nat) (y2_2 : Int32) (H : Heap) (locs : List Loc) (ls : Array Slot), (0 : Int) ≤ y2_2.toInt + (0) → (y2_2.toInt : Int) ≤ 0 + (4) → (y2_2.toInt : Int) ≤ v0_0.toInt + (0) → 5 - y2_2.toInt < n → va_P (dC, dI) vwCl [(h0, .inr (9, [.int v0_0, .ref r0_1, .ref r0_2, .ref r0_3, .ref r0_4, .int v0_5, .ref r0_6, .ref r0_7, .ref r0_8])), (r0_1, .inl (k1, 4, .inl f1))] H → va_D A [(h0, .inr (9, [.int v0_0, .ref r0_1, .ref r0_2, .ref r0_3, .ref r0_4, .int v0_5, .ref r0_6, .ref r0_7, .ref r0_8])), (r0_1, .inl (k1, 4, .inl f1))] → va_S A s.heap H locs → lv_has ls 3 [(2, .int y2_2), (0, .ref h0), (1, .int p1)] → W p l e (headSpec wsX9_findFormat ({ frames := 0, cells := 0, slots := 0, locals := 0 })).room s m ([.ref h0, .int p1] : List Value).toArray below meth c H locs 0 0 Q (F0 m 2 ls []) := by
    intro n
    induction n with
    | zero =>
      intro y2_2 H locs ls hz2_0 hz2_1 hz2_2  hmeas hP hD hS hl
      exfalso; omega
    | succ n ih2 =>
      intro y2_2 H locs ls hz2_0 hz2_1 hz2_2  hmeas hP hD hS hl
      refine lv_iload_n hx hb dX9_findFormat_2 rfl (lv_at hl 0 rfl) ?_
      refine lv_aload_n hx hb dX9_findFormat_3 rfl (lv_at hl 1 rfl) ?_
      refine va_get (D := (dC, dI)) (ci := 9) (v := .int v0_0) (C := RX9) (T := TX9) (N := 9) hx hb hts zn_X9_findFormat_X9 hown hK hP 0 rfl rfl 0 (by decide) (hts (.fieldLink RX9 45 "ShortEnough$Task" "formats" "I") zw_X9_findFormat_19) (fun _ h9 => h9) rfl dX9_findFormat_4 ?_
      refine lv_icmp_ge (tgt := 28) hx hb dX9_findFormat_7 (by decide) (fun c_1 => ?_) (fun c_1 => ?_)
      · have oc_1 := zk_le rfl rfl c_1
        refine lv_iconst (v := (-1)) hx hb dX9_findFormat_28 (by decide +kernel) ?_
        have hP9 := hP.sub (ws' := [(h0, .inr (9, [.int v0_0, .ref r0_1, .ref r0_2, .ref r0_3, .ref r0_4, .int v0_5, .ref r0_6, .ref r0_7, .ref r0_8])), (r0_1, .inl (k1, 4, .inl f1))]) [0, 1] rfl
        have hD9 := hD.sub (ws' := [(h0, .inr (9, [.int v0_0, .ref r0_1, .ref r0_2, .ref r0_3, .ref r0_4, .int v0_5, .ref r0_6, .ref r0_7, .ref r0_8])), (r0_1, .inl (k1, 4, .inl f1))]) [0, 1] (by decide) rfl
        have hK9 := hK.sub (tys' := [(k1, .int)]) [0] rfl
        rw [← hQ]
        exact W.iret (v := (-1)) hx hb hr (fun t ht hW => ⟨⟨(-1), ((fun k => ([] : List Int32).getD k 0), (fun k => ([] : List (Nat → Int32)).getD k (fun _ => 0)), (fun k => ([] : List (Nat → Int64)).getD k (fun _ => 0))), rfl, ⟨(show (-1 : Int) ≤ ((-1) : Int32).toInt ∧ ((-1) : Int32).toInt ≤ 3 by decide +kernel), (show (((-1) : Int32).toInt = -1 ∨ ((0 : Int) ≤ v0_0.toInt + (-1))) by exact Or.inl (by decide +kernel)), trivial⟩, by rw [ht]; exact hP9, va_K.moved hW.alike hK9, hD9⟩, hS.F ht⟩) hS.2.2 dX9_findFormat_29
      have oc_1 := zk_nle rfl rfl c_1
      refine lv_aload_n hx hb dX9_findFormat_10 rfl (lv_at hl 1 rfl) ?_
      refine va_get (D := (dC, dI)) (ci := 9) (v := .ref r0_1) (C := RX9) (T := TX9) (N := 9) hx hb hts zn_X9_findFormat_X9 hown hK hP 0 rfl rfl 1 (by decide) (hts (.fieldLink RX9 9 "ShortEnough$Task" "formatName" "[I") zw_X9_findFormat_20) (fun _ h9 => h9) rfl dX9_findFormat_11 ?_
      refine lv_iload_n hx hb dX9_findFormat_14 rfl (lv_at hl 0 rfl) ?_
      refine va_iald hx hb hK hP 1 0 rfl rfl (vp_in_iff.mpr ⟨by omega, by omega⟩) dX9_findFormat_15 ?_
      refine lv_topi (fun x_2 ex_2 => ?_)
      refine lv_iload_n hx hb dX9_findFormat_16 rfl (lv_at hl 2 rfl) ?_
      refine lv_icmp_ne (tgt := 22) hx hb dX9_findFormat_17 (by decide) (fun c_3 => ?_) (fun c_3 => ?_)
      · have oc_3 := zk_ne rfl rfl c_3
        obtain ⟨x_4, ex_4⟩ : ∃ y : Int32, y = y2_2 + 1 := ⟨_, rfl⟩
        refine lv_iinc (v := x_4) (lv' := [(2, .int x_4), (0, .ref h0), (1, .int p1)]) hx hb dX9_findFormat_22 hl (k := 0) rfl (by rw [ex_4]; rfl) (by decide) rfl (fun ls hl => ?_)
        have hx_4 := zo_add ex_4 rfl (by decide +kernel : (1 : Int32).toInt = 1) (by omega)
        refine lv_goto (tgt := 2) hx hb dX9_findFormat_25 (by decide) ?_
        exact ih2  x_4 H locs ls (by omega) (by omega) (by omega)  (by omega) hP hD hS (lv_sub hl [0, 1, 2] rfl)
      have oc_3 := zk_eq rfl rfl c_3
      refine lv_iload_n hx hb dX9_findFormat_20 rfl (lv_at hl 0 rfl) ?_
      have hP9 := hP.sub (ws' := [(h0, .inr (9, [.int v0_0, .ref r0_1, .ref r0_2, .ref r0_3, .ref r0_4, .int v0_5, .ref r0_6, .ref r0_7, .ref r0_8])), (r0_1, .inl (k1, 4, .inl f1))]) [0, 1] rfl
      have hD9 := hD.sub (ws' := [(h0, .inr (9, [.int v0_0, .ref r0_1, .ref r0_2, .ref r0_3, .ref r0_4, .int v0_5, .ref r0_6, .ref r0_7, .ref r0_8])), (r0_1, .inl (k1, 4, .inl f1))]) [0, 1] (by decide) rfl
      have hK9 := hK.sub (tys' := [(k1, .int)]) [0] rfl
      rw [← hQ]
      exact W.iret (v := y2_2) hx hb hr (fun t ht hW => ⟨⟨y2_2, ((fun k => ([] : List Int32).getD k 0), (fun k => ([] : List (Nat → Int32)).getD k (fun _ => 0)), (fun k => ([] : List (Nat → Int64)).getD k (fun _ => 0))), rfl, ⟨(show (-1 : Int) ≤ (y2_2 : Int32).toInt ∧ (y2_2 : Int32).toInt ≤ 3 by omega), (show ((y2_2 : Int32).toInt = -1 ∨ ((0 : Int) ≤ v0_0.toInt + (-1))) by omega), trivial⟩, by rw [ht]; exact hP9, va_K.moved hW.alike hK9, hD9⟩, hS.F ht⟩) hS.2.2 dX9_findFormat_21
  have kk0 : (0 : Int32).toInt = 0 := (by decide +kernel)
  exact lp2 ((5 - (0 : Int32).toInt).toNat + 1) 0 s.heap [] ls (by omega) (by omega) (by omega)  (by omega) hP hD hS (lv_sub hl [0, 1, 2] rfl)
set_option maxHeartbeats 4000000 in
set_option maxRecDepth 100000 in
theorem zs_X2_isFree (l : Launch) (dC : Nat → ClassId) (dI : Nat → Nat → Nat) (h0 : Nat) (p1 : Int32) (v0_0 : Int32) (v0_1 : Int32) (v0_2 : Int32) (r0_3 : Nat) (r0_4 : Nat) (r0_5 : Nat) (k1 : Nat) (f1 : Nat → Int32) (hq_v0_0 : (0 : Int) ≤ v0_0.toInt ∧ v0_0.toInt ≤ 14) (hq_v0_2 : (0 : Int) ≤ v0_2.toInt ∧ v0_2.toInt ≤ 1) (sz : Nat) : Met l yX2_isFree wsX2_isFree ({ frames := 0, cells := 0, slots := 0, locals := 0 }) (va_Pc [.ref h0, .int p1] (fun U => U.heap.size = sz ∧ va_P (dC, dI) vwCl [(h0, .inr (2, [.int v0_0, .int v0_1, .int v0_2, .ref r0_3, .ref r0_4, .ref r0_5])), (r0_4, .inl (k1, 14, .inl f1))] U.heap ∧ va_K (dC, dI) vwCl [(k1, .int)] U ∧ va_D (fun _ => True) [(h0, .inr (2, [.int v0_0, .int v0_1, .int v0_2, .ref r0_3, .ref r0_4, .ref r0_5])), (r0_4, .inl (k1, 14, .inl f1))])) (va_Qi (fun (r : Int32) (u : zV) => ((0 : Int) ≤ r.toInt ∧ r.toInt ≤ 1) ∧ (r.toInt = 0 ∨ ((0 : Int) ≤ p1.toInt + (0) ∧ (p1.toInt : Int) ≤ v0_0.toInt + (-1))) ∧ True) (fun u t => va_P (dC, dI) vwCl [(h0, .inr (2, [.int v0_0, .int v0_1, .int v0_2, .ref r0_3, .ref r0_4, .ref r0_5])), (r0_4, .inl (k1, 14, .inl f1))] t.heap ∧ va_K (dC, dI) vwCl [(k1, .int)] t ∧ va_D (va_A [(h0, .inr (2, [.int v0_0, .int v0_1, .int v0_2, .ref r0_3, .ref r0_4, .ref r0_5])), (r0_4, .inl (k1, 14, .inl f1))] sz) [(h0, .inr (2, [.int v0_0, .int v0_1, .int v0_2, .ref r0_3, .ref r0_4, .ref r0_5])), (r0_4, .inl (k1, 14, .inl f1))]) (va_A [(h0, .inr (2, [.int v0_0, .int v0_1, .int v0_2, .ref r0_3, .ref r0_4, .ref r0_5])), (r0_4, .inl (k1, 14, .inl f1))] sz)) 0 0 (va_A [(h0, .inr (2, [.int v0_0, .int v0_1, .int v0_2, .ref r0_3, .ref r0_4, .ref r0_5])), (r0_4, .inl (k1, 14, .inl f1))] sz) := by
  refine Met.ofW (cc := cX2_isFree) (maxL := 2) (ret := (some .boolean)) (by decide +kernel) rfl ?_
  intro p e s m args below meth c s₁ B hml hv
  obtain ⟨rfl, hsz, hP, hK, hD0⟩ := hv
  have hx := B.exec
  have hb := B.bytes
  have hr := B.returns
  have hts := atoms_spec (ws := wsX2_isFree) B.pre
  have hown : s.vm.findClass RX2 = some m.cls := findClass_of_methodNamed B.named
  have hlocks := B.notSynchronized
  subst hsz
  have hD := hD0.self (sz := s.heap.size)
  generalize hAe : va_A [(h0, .inr (2, [.int v0_0, .int v0_1, .int v0_2, .ref r0_3, .ref r0_4, .ref r0_5])), (r0_4, .inl (k1, 14, .inl f1))] s.heap.size = A at hD ⊢
  have hA : ∀ q : Nat, s.heap.size ≤ q → A q := fun q h => by rw [← hAe]; exact Or.inr h
  have hS : va_S A s.heap s.heap [] := va_S.rf
  have hP : va_P (dC, dI) vwCl [(h0, .inr (2, [.int v0_0, .int v0_1, .int v0_2, .ref r0_3, .ref r0_4, .ref r0_5])), (r0_4, .inl (k1, 14, .inl f1))] s.heap := hP
  have hl := lv_entry ([.ref h0, .int p1]) (n := 2) (Nat.le_of_ble_eq_true rfl)
  rw [lg_entry_eq]
  generalize (lg_sl ([.ref h0, .int p1]) ++ List.replicate (2 - (lg_sl ([.ref h0, .int p1])).length) Slot.unset).toArray = ls at hl ⊢
  have hl : lv_has ls 2 [(0, .ref h0), (1, .int p1)] := hl
  generalize hQ : MQ below (va_Qi (fun (r : Int32) (u : zV) => ((0 : Int) ≤ r.toInt ∧ r.toInt ≤ 1) ∧ (r.toInt = 0 ∨ ((0 : Int) ≤ p1.toInt + (0) ∧ (p1.toInt : Int) ≤ v0_0.toInt + (-1))) ∧ True) (fun u t => va_P (dC, dI) vwCl [(h0, .inr (2, [.int v0_0, .int v0_1, .int v0_2, .ref r0_3, .ref r0_4, .ref r0_5])), (r0_4, .inl (k1, 14, .inl f1))] t.heap ∧ va_K (dC, dI) vwCl [(k1, .int)] t ∧ va_D A [(h0, .inr (2, [.int v0_0, .int v0_1, .int v0_2, .ref r0_3, .ref r0_4, .ref r0_5])), (r0_4, .inl (k1, 14, .inl f1))]) A) ([.ref h0, .int p1] : List Value).toArray s 0 0 A = Q
  refine lv_iload_n hx hb dX2_isFree_0 rfl (lv_at hl 1 rfl) ?_
  refine lv_if_lt (tgt := 26) hx hb dX2_isFree_1 (by decide) (fun c_1 => ?_) (fun c_1 => ?_)
  · have oc_1 := zk_lt rfl (by decide +kernel : (0 : Int32).toInt = 0) c_1
    refine lv_iconst (v := 0) hx hb dX2_isFree_26 (by decide +kernel) ?_
    have hP9 := hP.sub (ws' := [(h0, .inr (2, [.int v0_0, .int v0_1, .int v0_2, .ref r0_3, .ref r0_4, .ref r0_5])), (r0_4, .inl (k1, 14, .inl f1))]) [0, 1] rfl
    have hD9 := hD.sub (ws' := [(h0, .inr (2, [.int v0_0, .int v0_1, .int v0_2, .ref r0_3, .ref r0_4, .ref r0_5])), (r0_4, .inl (k1, 14, .inl f1))]) [0, 1] (by decide) rfl
    have hK9 := hK.sub (tys' := [(k1, .int)]) [0] rfl
    rw [← hQ]
    exact W.zret (v := 0) hx hb hr rfl (fun t ht hW => ⟨⟨0, ((fun k => ([] : List Int32).getD k 0), (fun k => ([] : List (Nat → Int32)).getD k (fun _ => 0)), (fun k => ([] : List (Nat → Int64)).getD k (fun _ => 0))), rfl, ⟨(show (0 : Int) ≤ (0 : Int32).toInt ∧ (0 : Int32).toInt ≤ 1 by decide +kernel), (show ((0 : Int32).toInt = 0 ∨ ((0 : Int) ≤ p1.toInt + (0) ∧ (p1.toInt : Int) ≤ v0_0.toInt + (-1))) by exact Or.inl (by decide +kernel)), trivial⟩, by rw [ht]; exact hP9, va_K.moved hW.alike hK9, hD9⟩, hS.F ht⟩) hS.2.2 dX2_isFree_27
  have oc_1 := zk_nlt rfl (by decide +kernel : (0 : Int32).toInt = 0) c_1
  refine lv_iload_n hx hb dX2_isFree_4 rfl (lv_at hl 1 rfl) ?_
  refine lv_aload_n hx hb dX2_isFree_5 rfl (lv_at hl 0 rfl) ?_
  refine va_get (D := (dC, dI)) (ci := 2) (v := .int v0_0) (C := RX2) (T := TX2) (N := 6) hx hb hts zn_X2_isFree_X2 hown hK hP 0 rfl rfl 0 (by decide) (hts (.fieldLink RX2 21 "ShortEnough$Groups" "count" "I") zw_X2_isFree_22) (fun _ h9 => h9) rfl dX2_isFree_6 ?_
  refine lv_icmp_ge (tgt := 26) hx hb dX2_isFree_9 (by decide) (fun c_2 => ?_) (fun c_2 => ?_)
  · have oc_2 := zk_le rfl rfl c_2
    refine lv_iconst (v := 0) hx hb dX2_isFree_26 (by decide +kernel) ?_
    have hP9 := hP.sub (ws' := [(h0, .inr (2, [.int v0_0, .int v0_1, .int v0_2, .ref r0_3, .ref r0_4, .ref r0_5])), (r0_4, .inl (k1, 14, .inl f1))]) [0, 1] rfl
    have hD9 := hD.sub (ws' := [(h0, .inr (2, [.int v0_0, .int v0_1, .int v0_2, .ref r0_3, .ref r0_4, .ref r0_5])), (r0_4, .inl (k1, 14, .inl f1))]) [0, 1] (by decide) rfl
    have hK9 := hK.sub (tys' := [(k1, .int)]) [0] rfl
    rw [← hQ]
    exact W.zret (v := 0) hx hb hr rfl (fun t ht hW => ⟨⟨0, ((fun k => ([] : List Int32).getD k 0), (fun k => ([] : List (Nat → Int32)).getD k (fun _ => 0)), (fun k => ([] : List (Nat → Int64)).getD k (fun _ => 0))), rfl, ⟨(show (0 : Int) ≤ (0 : Int32).toInt ∧ (0 : Int32).toInt ≤ 1 by decide +kernel), (show ((0 : Int32).toInt = 0 ∨ ((0 : Int) ≤ p1.toInt + (0) ∧ (p1.toInt : Int) ≤ v0_0.toInt + (-1))) by exact Or.inl (by decide +kernel)), trivial⟩, by rw [ht]; exact hP9, va_K.moved hW.alike hK9, hD9⟩, hS.F ht⟩) hS.2.2 dX2_isFree_27
  have oc_2 := zk_nle rfl rfl c_2
  refine lv_aload_n hx hb dX2_isFree_12 rfl (lv_at hl 0 rfl) ?_
  refine va_get (D := (dC, dI)) (ci := 2) (v := .ref r0_4) (C := RX2) (T := TX2) (N := 6) hx hb hts zn_X2_isFree_X2 hown hK hP 0 rfl rfl 4 (by decide) (hts (.fieldLink RX2 15 "ShortEnough$Groups" "fixedAs" "[I") zw_X2_isFree_23) (fun _ h9 => h9) rfl dX2_isFree_13 ?_
  refine lv_iload_n hx hb dX2_isFree_16 rfl (lv_at hl 1 rfl) ?_
  refine va_iald hx hb hK hP 1 0 rfl rfl (vp_in_iff.mpr ⟨by omega, by omega⟩) dX2_isFree_17 ?_
  refine lv_topi (fun x_3 ex_3 => ?_)
  refine lv_iconst (v := (-1)) hx hb dX2_isFree_18 (by decide +kernel) ?_
  refine lv_icmp_ne (tgt := 26) hx hb dX2_isFree_19 (by decide) (fun c_4 => ?_) (fun c_4 => ?_)
  · have oc_4 := zk_ne rfl (by decide +kernel : ((-1) : Int32).toInt = -1) c_4
    refine lv_iconst (v := 0) hx hb dX2_isFree_26 (by decide +kernel) ?_
    have hP9 := hP.sub (ws' := [(h0, .inr (2, [.int v0_0, .int v0_1, .int v0_2, .ref r0_3, .ref r0_4, .ref r0_5])), (r0_4, .inl (k1, 14, .inl f1))]) [0, 1] rfl
    have hD9 := hD.sub (ws' := [(h0, .inr (2, [.int v0_0, .int v0_1, .int v0_2, .ref r0_3, .ref r0_4, .ref r0_5])), (r0_4, .inl (k1, 14, .inl f1))]) [0, 1] (by decide) rfl
    have hK9 := hK.sub (tys' := [(k1, .int)]) [0] rfl
    rw [← hQ]
    exact W.zret (v := 0) hx hb hr rfl (fun t ht hW => ⟨⟨0, ((fun k => ([] : List Int32).getD k 0), (fun k => ([] : List (Nat → Int32)).getD k (fun _ => 0)), (fun k => ([] : List (Nat → Int64)).getD k (fun _ => 0))), rfl, ⟨(show (0 : Int) ≤ (0 : Int32).toInt ∧ (0 : Int32).toInt ≤ 1 by decide +kernel), (show ((0 : Int32).toInt = 0 ∨ ((0 : Int) ≤ p1.toInt + (0) ∧ (p1.toInt : Int) ≤ v0_0.toInt + (-1))) by exact Or.inl (by decide +kernel)), trivial⟩, by rw [ht]; exact hP9, va_K.moved hW.alike hK9, hD9⟩, hS.F ht⟩) hS.2.2 dX2_isFree_27
  have oc_4 := zk_eq rfl (by decide +kernel : ((-1) : Int32).toInt = -1) c_4
  refine lv_iconst (v := 1) hx hb dX2_isFree_22 (by decide +kernel) ?_
  refine lv_goto (tgt := 27) hx hb dX2_isFree_23 (by decide) ?_
  have hP9 := hP.sub (ws' := [(h0, .inr (2, [.int v0_0, .int v0_1, .int v0_2, .ref r0_3, .ref r0_4, .ref r0_5])), (r0_4, .inl (k1, 14, .inl f1))]) [0, 1] rfl
  have hD9 := hD.sub (ws' := [(h0, .inr (2, [.int v0_0, .int v0_1, .int v0_2, .ref r0_3, .ref r0_4, .ref r0_5])), (r0_4, .inl (k1, 14, .inl f1))]) [0, 1] (by decide) rfl
  have hK9 := hK.sub (tys' := [(k1, .int)]) [0] rfl
  rw [← hQ]
  exact W.zret (v := 1) hx hb hr rfl (fun t ht hW => ⟨⟨1, ((fun k => ([] : List Int32).getD k 0), (fun k => ([] : List (Nat → Int32)).getD k (fun _ => 0)), (fun k => ([] : List (Nat → Int64)).getD k (fun _ => 0))), rfl, ⟨(show (0 : Int) ≤ (1 : Int32).toInt ∧ (1 : Int32).toInt ≤ 1 by decide +kernel), (show ((1 : Int32).toInt = 0 ∨ ((0 : Int) ≤ p1.toInt + (0) ∧ (p1.toInt : Int) ≤ v0_0.toInt + (-1))) by right; omega), trivial⟩, by rw [ht]; exact hP9, va_K.moved hW.alike hK9, hD9⟩, hS.F ht⟩) hS.2.2 dX2_isFree_27
set_option maxHeartbeats 4000000 in
set_option maxRecDepth 100000 in
theorem zs_X9_formatOf (l : Launch) (dC : Nat → ClassId) (dI : Nat → Nat → Nat) (h0 : Nat) (h1 : Nat) (p2 : Int32) (v0_0 : Int32) (r0_1 : Nat) (r0_2 : Nat) (r0_3 : Nat) (r0_4 : Nat) (v0_5 : Int32) (r0_6 : Nat) (r0_7 : Nat) (r0_8 : Nat) (v1_0 : Int32) (v1_1 : Int32) (r1_2 : Nat) (r1_3 : Nat) (r1_4 : Nat) (r1_5 : Nat) (r1_6 : Nat) (r1_7 : Nat) (r1_8 : Nat) (r1_9 : Nat) (v2_0 : Int32) (v2_1 : Int32) (v2_2 : Int32) (r2_3 : Nat) (r2_4 : Nat) (r2_5 : Nat) (k3 : Nat) (f3 : Nat → Int32) (k4 : Nat) (f4 : Nat → Int32) (hq_v0_0 : (0 : Int) ≤ v0_0.toInt ∧ v0_0.toInt ≤ 4) (hq_v1_0 : (0 : Int) ≤ v1_0.toInt ∧ v1_0.toInt ≤ 14) (hq_v2_0 : (0 : Int) ≤ v2_0.toInt ∧ v2_0.toInt ≤ 14) (hq_v2_2 : (0 : Int) ≤ v2_2.toInt ∧ v2_2.toInt ≤ 1) (hf3 : zr f3 (-1) 13) (sz : Nat) : Met l yX9_formatOf wsX9_formatOf ({ frames := 0, cells := 0, slots := 0, locals := 0 }) (va_Pc [.ref h0, .ref h1, .int p2] (fun U => U.heap.size = sz ∧ va_P (dC, dI) vwCl [(h0, .inr (9, [.int v0_0, .ref r0_1, .ref r0_2, .ref r0_3, .ref r0_4, .int v0_5, .ref r0_6, .ref r0_7, .ref r0_8])), (r0_6, .inr (4, [.int v1_0, .int v1_1, .ref r1_2, .ref r1_3, .ref r1_4, .ref r1_5, .ref r1_6, .ref r1_7, .ref r1_8, .ref r1_9])), (r0_7, .inr (2, [.int v2_0, .int v2_1, .int v2_2, .ref r2_3, .ref r2_4, .ref r2_5])), (r2_3, .inl (k3, 14, .inl f3)), (h1, .inl (k4, 14, .inl f4))] U.heap ∧ va_K (dC, dI) vwCl [(k3, .int), (k4, .int)] U ∧ va_D (fun _ => True) [(h0, .inr (9, [.int v0_0, .ref r0_1, .ref r0_2, .ref r0_3, .ref r0_4, .int v0_5, .ref r0_6, .ref r0_7, .ref r0_8])), (r0_6, .inr (4, [.int v1_0, .int v1_1, .ref r1_2, .ref r1_3, .ref r1_4, .ref r1_5, .ref r1_6, .ref r1_7, .ref r1_8, .ref r1_9])), (r0_7, .inr (2, [.int v2_0, .int v2_1, .int v2_2, .ref r2_3, .ref r2_4, .ref r2_5])), (r2_3, .inl (k3, 14, .inl f3)), (h1, .inl (k4, 14, .inl f4))])) (va_Qi (fun (r : Int32) (u : zV) => (r.toInt = -1 ∨ ((0 : Int) ≤ p2.toInt + (0) ∧ (p2.toInt : Int) ≤ v1_0.toInt + (-1))) ∧ True) (fun u t => va_P (dC, dI) vwCl [(h0, .inr (9, [.int v0_0, .ref r0_1, .ref r0_2, .ref r0_3, .ref r0_4, .int v0_5, .ref r0_6, .ref r0_7, .ref r0_8])), (r0_6, .inr (4, [.int v1_0, .int v1_1, .ref r1_2, .ref r1_3, .ref r1_4, .ref r1_5, .ref r1_6, .ref r1_7, .ref r1_8, .ref r1_9])), (r0_7, .inr (2, [.int v2_0, .int v2_1, .int v2_2, .ref r2_3, .ref r2_4, .ref r2_5])), (r2_3, .inl (k3, 14, .inl f3)), (h1, .inl (k4, 14, .inl f4))] t.heap ∧ va_K (dC, dI) vwCl [(k3, .int), (k4, .int)] t ∧ va_D (va_A [(h0, .inr (9, [.int v0_0, .ref r0_1, .ref r0_2, .ref r0_3, .ref r0_4, .int v0_5, .ref r0_6, .ref r0_7, .ref r0_8])), (r0_6, .inr (4, [.int v1_0, .int v1_1, .ref r1_2, .ref r1_3, .ref r1_4, .ref r1_5, .ref r1_6, .ref r1_7, .ref r1_8, .ref r1_9])), (r0_7, .inr (2, [.int v2_0, .int v2_1, .int v2_2, .ref r2_3, .ref r2_4, .ref r2_5])), (r2_3, .inl (k3, 14, .inl f3)), (h1, .inl (k4, 14, .inl f4))] sz) [(h0, .inr (9, [.int v0_0, .ref r0_1, .ref r0_2, .ref r0_3, .ref r0_4, .int v0_5, .ref r0_6, .ref r0_7, .ref r0_8])), (r0_6, .inr (4, [.int v1_0, .int v1_1, .ref r1_2, .ref r1_3, .ref r1_4, .ref r1_5, .ref r1_6, .ref r1_7, .ref r1_8, .ref r1_9])), (r0_7, .inr (2, [.int v2_0, .int v2_1, .int v2_2, .ref r2_3, .ref r2_4, .ref r2_5])), (r2_3, .inl (k3, 14, .inl f3)), (h1, .inl (k4, 14, .inl f4))]) (va_A [(h0, .inr (9, [.int v0_0, .ref r0_1, .ref r0_2, .ref r0_3, .ref r0_4, .int v0_5, .ref r0_6, .ref r0_7, .ref r0_8])), (r0_6, .inr (4, [.int v1_0, .int v1_1, .ref r1_2, .ref r1_3, .ref r1_4, .ref r1_5, .ref r1_6, .ref r1_7, .ref r1_8, .ref r1_9])), (r0_7, .inr (2, [.int v2_0, .int v2_1, .int v2_2, .ref r2_3, .ref r2_4, .ref r2_5])), (r2_3, .inl (k3, 14, .inl f3)), (h1, .inl (k4, 14, .inl f4))] sz)) 0 0 (va_A [(h0, .inr (9, [.int v0_0, .ref r0_1, .ref r0_2, .ref r0_3, .ref r0_4, .int v0_5, .ref r0_6, .ref r0_7, .ref r0_8])), (r0_6, .inr (4, [.int v1_0, .int v1_1, .ref r1_2, .ref r1_3, .ref r1_4, .ref r1_5, .ref r1_6, .ref r1_7, .ref r1_8, .ref r1_9])), (r0_7, .inr (2, [.int v2_0, .int v2_1, .int v2_2, .ref r2_3, .ref r2_4, .ref r2_5])), (r2_3, .inl (k3, 14, .inl f3)), (h1, .inl (k4, 14, .inl f4))] sz) := by
  refine Met.ofW (cc := cX9_formatOf) (maxL := 4) (ret := (some .int)) (by decide +kernel) rfl ?_
  intro p e s m args below meth c s₁ B hml hv
  obtain ⟨rfl, hsz, hP, hK, hD0⟩ := hv
  have hx := B.exec
  have hb := B.bytes
  have hr := B.returns
  have hts := atoms_spec (ws := wsX9_formatOf) B.pre
  have hown : s.vm.findClass RX9 = some m.cls := findClass_of_methodNamed B.named
  have hlocks := B.notSynchronized
  subst hsz
  have hD := hD0.self (sz := s.heap.size)
  generalize hAe : va_A [(h0, .inr (9, [.int v0_0, .ref r0_1, .ref r0_2, .ref r0_3, .ref r0_4, .int v0_5, .ref r0_6, .ref r0_7, .ref r0_8])), (r0_6, .inr (4, [.int v1_0, .int v1_1, .ref r1_2, .ref r1_3, .ref r1_4, .ref r1_5, .ref r1_6, .ref r1_7, .ref r1_8, .ref r1_9])), (r0_7, .inr (2, [.int v2_0, .int v2_1, .int v2_2, .ref r2_3, .ref r2_4, .ref r2_5])), (r2_3, .inl (k3, 14, .inl f3)), (h1, .inl (k4, 14, .inl f4))] s.heap.size = A at hD ⊢
  have hA : ∀ q : Nat, s.heap.size ≤ q → A q := fun q h => by rw [← hAe]; exact Or.inr h
  have hS : va_S A s.heap s.heap [] := va_S.rf
  have hP : va_P (dC, dI) vwCl [(h0, .inr (9, [.int v0_0, .ref r0_1, .ref r0_2, .ref r0_3, .ref r0_4, .int v0_5, .ref r0_6, .ref r0_7, .ref r0_8])), (r0_6, .inr (4, [.int v1_0, .int v1_1, .ref r1_2, .ref r1_3, .ref r1_4, .ref r1_5, .ref r1_6, .ref r1_7, .ref r1_8, .ref r1_9])), (r0_7, .inr (2, [.int v2_0, .int v2_1, .int v2_2, .ref r2_3, .ref r2_4, .ref r2_5])), (r2_3, .inl (k3, 14, .inl f3)), (h1, .inl (k4, 14, .inl f4))] s.heap := hP
  have hl := lv_entry ([.ref h0, .ref h1, .int p2]) (n := 4) (Nat.le_of_ble_eq_true rfl)
  rw [lg_entry_eq]
  generalize (lg_sl ([.ref h0, .ref h1, .int p2]) ++ List.replicate (4 - (lg_sl ([.ref h0, .ref h1, .int p2])).length) Slot.unset).toArray = ls at hl ⊢
  have hl : lv_has ls 4 [(0, .ref h0), (1, .ref h1), (2, .int p2)] := hl
  generalize hQ : MQ below (va_Qi (fun (r : Int32) (u : zV) => (r.toInt = -1 ∨ ((0 : Int) ≤ p2.toInt + (0) ∧ (p2.toInt : Int) ≤ v1_0.toInt + (-1))) ∧ True) (fun u t => va_P (dC, dI) vwCl [(h0, .inr (9, [.int v0_0, .ref r0_1, .ref r0_2, .ref r0_3, .ref r0_4, .int v0_5, .ref r0_6, .ref r0_7, .ref r0_8])), (r0_6, .inr (4, [.int v1_0, .int v1_1, .ref r1_2, .ref r1_3, .ref r1_4, .ref r1_5, .ref r1_6, .ref r1_7, .ref r1_8, .ref r1_9])), (r0_7, .inr (2, [.int v2_0, .int v2_1, .int v2_2, .ref r2_3, .ref r2_4, .ref r2_5])), (r2_3, .inl (k3, 14, .inl f3)), (h1, .inl (k4, 14, .inl f4))] t.heap ∧ va_K (dC, dI) vwCl [(k3, .int), (k4, .int)] t ∧ va_D A [(h0, .inr (9, [.int v0_0, .ref r0_1, .ref r0_2, .ref r0_3, .ref r0_4, .int v0_5, .ref r0_6, .ref r0_7, .ref r0_8])), (r0_6, .inr (4, [.int v1_0, .int v1_1, .ref r1_2, .ref r1_3, .ref r1_4, .ref r1_5, .ref r1_6, .ref r1_7, .ref r1_8, .ref r1_9])), (r0_7, .inr (2, [.int v2_0, .int v2_1, .int v2_2, .ref r2_3, .ref r2_4, .ref r2_5])), (r2_3, .inl (k3, 14, .inl f3)), (h1, .inl (k4, 14, .inl f4))]) A) ([.ref h0, .ref h1, .int p2] : List Value).toArray s 0 0 A = Q
  refine lv_iload_n hx hb dX9_formatOf_0 rfl (lv_at hl 2 rfl) ?_
  have jp27_1 : ∀  (H : Heap) (locs : List Loc) (ls : Array Slot), va_P (dC, dI) vwCl [(h0, .inr (9, [.int v0_0, .ref r0_1, .ref r0_2, .ref r0_3, .ref r0_4, .int v0_5, .ref r0_6, .ref r0_7, .ref r0_8])), (r0_6, .inr (4, [.int v1_0, .int v1_1, .ref r1_2, .ref r1_3, .ref r1_4, .ref r1_5, .ref r1_6, .ref r1_7, .ref r1_8, .ref r1_9])), (r0_7, .inr (2, [.int v2_0, .int v2_1, .int v2_2, .ref r2_3, .ref r2_4, .ref r2_5])), (r2_3, .inl (k3, 14, .inl f3)), (h1, .inl (k4, 14, .inl f4))] H → va_D A [(h0, .inr (9, [.int v0_0, .ref r0_1, .ref r0_2, .ref r0_3, .ref r0_4, .int v0_5, .ref r0_6, .ref r0_7, .ref r0_8])), (r0_6, .inr (4, [.int v1_0, .int v1_1, .ref r1_2, .ref r1_3, .ref r1_4, .ref r1_5, .ref r1_6, .ref r1_7, .ref r1_8, .ref r1_9])), (r0_7, .inr (2, [.int v2_0, .int v2_1, .int v2_2, .ref r2_3, .ref r2_4, .ref r2_5])), (r2_3, .inl (k3, 14, .inl f3)), (h1, .inl (k4, 14, .inl f4))] → va_S A s.heap H locs → lv_has ls 4 [(0, .ref h0), (1, .ref h1), (2, .int p2)] → W p l e (headSpec wsX9_formatOf ({ frames := 0, cells := 0, slots := 0, locals := 0 })).room s m ([.ref h0, .ref h1, .int p2] : List Value).toArray below meth c H locs 0 0 Q (F0 m 27 ls []) := by
    intro H locs ls  hP hD hS hl
    refine lv_iconst (v := (-1)) hx hb dX9_formatOf_27 (by decide +kernel) ?_
    refine lv_istore_n (lv' := [(3, .int (-1)), (0, .ref h0), (1, .ref h1), (2, .int p2)]) hx hb dX9_formatOf_28 rfl hl (by decide) rfl (fun ls hl => ?_)
    refine lv_iload_n hx hb dX9_formatOf_29 rfl (lv_at hl 0 rfl) ?_
    refine lv_if_lt (tgt := 45) hx hb dX9_formatOf_30 (by decide) (fun c_1 => ?_) (fun c_1 => by exfalso; have oc_1 := zk_nlt (by decide +kernel : ((-1) : Int32).toInt = -1) (by decide +kernel : (0 : Int32).toInt = 0) c_1; omega)
    have oc_1 := zk_lt (by decide +kernel : ((-1) : Int32).toInt = -1) (by decide +kernel : (0 : Int32).toInt = 0) c_1
    refine lv_iconst (v := (-1)) hx hb dX9_formatOf_45 (by decide +kernel) ?_
    have hP9 := hP.sub (ws' := [(h0, .inr (9, [.int v0_0, .ref r0_1, .ref r0_2, .ref r0_3, .ref r0_4, .int v0_5, .ref r0_6, .ref r0_7, .ref r0_8])), (r0_6, .inr (4, [.int v1_0, .int v1_1, .ref r1_2, .ref r1_3, .ref r1_4, .ref r1_5, .ref r1_6, .ref r1_7, .ref r1_8, .ref r1_9])), (r0_7, .inr (2, [.int v2_0, .int v2_1, .int v2_2, .ref r2_3, .ref r2_4, .ref r2_5])), (r2_3, .inl (k3, 14, .inl f3)), (h1, .inl (k4, 14, .inl f4))]) [0, 1, 2, 3, 4] rfl
    have hD9 := hD.sub (ws' := [(h0, .inr (9, [.int v0_0, .ref r0_1, .ref r0_2, .ref r0_3, .ref r0_4, .int v0_5, .ref r0_6, .ref r0_7, .ref r0_8])), (r0_6, .inr (4, [.int v1_0, .int v1_1, .ref r1_2, .ref r1_3, .ref r1_4, .ref r1_5, .ref r1_6, .ref r1_7, .ref r1_8, .ref r1_9])), (r0_7, .inr (2, [.int v2_0, .int v2_1, .int v2_2, .ref r2_3, .ref r2_4, .ref r2_5])), (r2_3, .inl (k3, 14, .inl f3)), (h1, .inl (k4, 14, .inl f4))]) [0, 1, 2, 3, 4] (by decide) rfl
    have hK9 := hK.sub (tys' := [(k3, .int), (k4, .int)]) [0, 1] rfl
    rw [← hQ]
    exact W.iret (v := (-1)) hx hb hr (fun t ht hW => ⟨⟨(-1), ((fun k => ([] : List Int32).getD k 0), (fun k => ([] : List (Nat → Int32)).getD k (fun _ => 0)), (fun k => ([] : List (Nat → Int64)).getD k (fun _ => 0))), rfl, ⟨(show (((-1) : Int32).toInt = -1 ∨ ((0 : Int) ≤ p2.toInt + (0) ∧ (p2.toInt : Int) ≤ v1_0.toInt + (-1))) by exact Or.inl (by decide +kernel)), trivial⟩, by rw [ht]; exact hP9, va_K.moved hW.alike hK9, hD9⟩, hS.F ht⟩) hS.2.2 dX9_formatOf_46
  refine lv_if_lt (tgt := 27) hx hb dX9_formatOf_1 (by decide) (fun c_2 => ?_) (fun c_2 => ?_)
  · have oc_2 := zk_lt rfl (by decide +kernel : (0 : Int32).toInt = 0) c_2
    exact jp27_1   s.heap [] ls  hP hD hS (lv_sub hl [0, 1, 2] rfl)
  have oc_2 := zk_nlt rfl (by decide +kernel : (0 : Int32).toInt = 0) c_2
  refine lv_iload_n hx hb dX9_formatOf_4 rfl (lv_at hl 2 rfl) ?_
  refine lv_aload_n hx hb dX9_formatOf_5 rfl (lv_at hl 0 rfl) ?_
  refine va_get (D := (dC, dI)) (ci := 9) (v := .ref r0_6) (C := RX9) (T := TX9) (N := 9) hx hb hts zn_X9_formatOf_X9 hown hK hP 0 rfl rfl 6 (by decide) (hts (.fieldLink RX9 27 "ShortEnough$Task" "numbers" "LShortEnough$Numbers;") zw_X9_formatOf_25) (fun _ h9 => h9) rfl dX9_formatOf_6 ?_
  refine va_get (D := (dC, dI)) (ci := 4) (v := .int v1_0) (C := RX4) (T := TX4) (N := 10) hx hb hts zn_X9_formatOf_X4 hown hK hP 1 rfl rfl 0 (by decide) (hts (.fieldLink RX9 52 "ShortEnough$Numbers" "count" "I") zw_X9_formatOf_27) (fun _ h9 => h9) rfl dX9_formatOf_9 ?_
  refine lv_icmp_ge (tgt := 27) hx hb dX9_formatOf_12 (by decide) (fun c_3 => ?_) (fun c_3 => ?_)
  · have oc_3 := zk_le rfl rfl c_3
    exact jp27_1   s.heap [] ls  hP hD hS (lv_sub hl [0, 1, 2] rfl)
  have oc_3 := zk_nle rfl rfl c_3
  refine lv_aload_n hx hb dX9_formatOf_15 rfl (lv_at hl 0 rfl) ?_
  refine va_get (D := (dC, dI)) (ci := 9) (v := .ref r0_7) (C := RX9) (T := TX9) (N := 9) hx hb hts zn_X9_formatOf_X9 hown hK hP 0 rfl rfl 7 (by decide) (hts (.fieldLink RX9 34 "ShortEnough$Task" "groups" "LShortEnough$Groups;") zw_X9_formatOf_28) (fun _ h9 => h9) rfl dX9_formatOf_16 ?_
  refine va_get (D := (dC, dI)) (ci := 2) (v := .ref r2_3) (C := RX2) (T := TX2) (N := 6) hx hb hts zn_X9_formatOf_X2 hown hK hP 2 rfl rfl 3 (by decide) (hts (.fieldLink RX9 80 "ShortEnough$Groups" "of" "[I") zw_X9_formatOf_30) (fun _ h9 => h9) rfl dX9_formatOf_19 ?_
  refine lv_iload_n hx hb dX9_formatOf_22 rfl (lv_at hl 2 rfl) ?_
  refine va_iald hx hb hK hP 3 0 rfl rfl (vp_in_iff.mpr ⟨by omega, by omega⟩) dX9_formatOf_23 ?_
  refine lv_topi (fun x_4 ex_4 => ?_)
  have hx_4 := zr_at hf3 ex_4
  refine lv_goto (tgt := 28) hx hb dX9_formatOf_24 (by decide) ?_
  refine lv_istore_n (lv' := [(3, .int x_4), (0, .ref h0), (1, .ref h1), (2, .int p2)]) hx hb dX9_formatOf_28 rfl hl (by decide) rfl (fun ls hl => ?_)
  refine lv_iload_n hx hb dX9_formatOf_29 rfl (lv_at hl 0 rfl) ?_
  refine lv_if_lt (tgt := 45) hx hb dX9_formatOf_30 (by decide) (fun c_5 => ?_) (fun c_5 => ?_)
  · have oc_5 := zk_lt rfl (by decide +kernel : (0 : Int32).toInt = 0) c_5
    refine lv_iconst (v := (-1)) hx hb dX9_formatOf_45 (by decide +kernel) ?_
    have hP9 := hP.sub (ws' := [(h0, .inr (9, [.int v0_0, .ref r0_1, .ref r0_2, .ref r0_3, .ref r0_4, .int v0_5, .ref r0_6, .ref r0_7, .ref r0_8])), (r0_6, .inr (4, [.int v1_0, .int v1_1, .ref r1_2, .ref r1_3, .ref r1_4, .ref r1_5, .ref r1_6, .ref r1_7, .ref r1_8, .ref r1_9])), (r0_7, .inr (2, [.int v2_0, .int v2_1, .int v2_2, .ref r2_3, .ref r2_4, .ref r2_5])), (r2_3, .inl (k3, 14, .inl f3)), (h1, .inl (k4, 14, .inl f4))]) [0, 1, 2, 3, 4] rfl
    have hD9 := hD.sub (ws' := [(h0, .inr (9, [.int v0_0, .ref r0_1, .ref r0_2, .ref r0_3, .ref r0_4, .int v0_5, .ref r0_6, .ref r0_7, .ref r0_8])), (r0_6, .inr (4, [.int v1_0, .int v1_1, .ref r1_2, .ref r1_3, .ref r1_4, .ref r1_5, .ref r1_6, .ref r1_7, .ref r1_8, .ref r1_9])), (r0_7, .inr (2, [.int v2_0, .int v2_1, .int v2_2, .ref r2_3, .ref r2_4, .ref r2_5])), (r2_3, .inl (k3, 14, .inl f3)), (h1, .inl (k4, 14, .inl f4))]) [0, 1, 2, 3, 4] (by decide) rfl
    have hK9 := hK.sub (tys' := [(k3, .int), (k4, .int)]) [0, 1] rfl
    rw [← hQ]
    exact W.iret (v := (-1)) hx hb hr (fun t ht hW => ⟨⟨(-1), ((fun k => ([] : List Int32).getD k 0), (fun k => ([] : List (Nat → Int32)).getD k (fun _ => 0)), (fun k => ([] : List (Nat → Int64)).getD k (fun _ => 0))), rfl, ⟨(show (((-1) : Int32).toInt = -1 ∨ ((0 : Int) ≤ p2.toInt + (0) ∧ (p2.toInt : Int) ≤ v1_0.toInt + (-1))) by exact Or.inl (by decide +kernel)), trivial⟩, by rw [ht]; exact hP9, va_K.moved hW.alike hK9, hD9⟩, hS.F ht⟩) hS.2.2 dX9_formatOf_46
  have oc_5 := zk_nlt rfl (by decide +kernel : (0 : Int32).toInt = 0) c_5
  refine lv_iload_n hx hb dX9_formatOf_33 rfl (lv_at hl 0 rfl) ?_
  refine lv_aload_n hx hb dX9_formatOf_34 rfl (lv_at hl 2 rfl) ?_
  refine va_alen (v := 14) hx hb hK hP 4 1 rfl rfl (show Int32.ofNat 14 = 14 by decide +kernel) dX9_formatOf_35 ?_
  refine lv_icmp_ge (tgt := 45) hx hb dX9_formatOf_36 (by decide) (fun c_6 => by exfalso; have oc_6 := zk_le (by decide +kernel : (14 : Int32).toInt = 14) rfl c_6; omega) (fun c_6 => ?_)
  have oc_6 := zk_nle (by decide +kernel : (14 : Int32).toInt = 14) rfl c_6
  refine lv_aload_n hx hb dX9_formatOf_39 rfl (lv_at hl 2 rfl) ?_
  refine lv_iload_n hx hb dX9_formatOf_40 rfl (lv_at hl 0 rfl) ?_
  refine va_iald hx hb hK hP 4 1 rfl rfl (vp_in_iff.mpr ⟨by omega, by omega⟩) dX9_formatOf_41 ?_
  refine lv_topi (fun x_7 ex_7 => ?_)
  refine lv_goto (tgt := 46) hx hb dX9_formatOf_42 (by decide) ?_
  have hP9 := hP.sub (ws' := [(h0, .inr (9, [.int v0_0, .ref r0_1, .ref r0_2, .ref r0_3, .ref r0_4, .int v0_5, .ref r0_6, .ref r0_7, .ref r0_8])), (r0_6, .inr (4, [.int v1_0, .int v1_1, .ref r1_2, .ref r1_3, .ref r1_4, .ref r1_5, .ref r1_6, .ref r1_7, .ref r1_8, .ref r1_9])), (r0_7, .inr (2, [.int v2_0, .int v2_1, .int v2_2, .ref r2_3, .ref r2_4, .ref r2_5])), (r2_3, .inl (k3, 14, .inl f3)), (h1, .inl (k4, 14, .inl f4))]) [0, 1, 2, 3, 4] rfl
  have hD9 := hD.sub (ws' := [(h0, .inr (9, [.int v0_0, .ref r0_1, .ref r0_2, .ref r0_3, .ref r0_4, .int v0_5, .ref r0_6, .ref r0_7, .ref r0_8])), (r0_6, .inr (4, [.int v1_0, .int v1_1, .ref r1_2, .ref r1_3, .ref r1_4, .ref r1_5, .ref r1_6, .ref r1_7, .ref r1_8, .ref r1_9])), (r0_7, .inr (2, [.int v2_0, .int v2_1, .int v2_2, .ref r2_3, .ref r2_4, .ref r2_5])), (r2_3, .inl (k3, 14, .inl f3)), (h1, .inl (k4, 14, .inl f4))]) [0, 1, 2, 3, 4] (by decide) rfl
  have hK9 := hK.sub (tys' := [(k3, .int), (k4, .int)]) [0, 1] rfl
  rw [← hQ]
  exact W.iret (v := x_7) hx hb hr (fun t ht hW => ⟨⟨x_7, ((fun k => ([] : List Int32).getD k 0), (fun k => ([] : List (Nat → Int32)).getD k (fun _ => 0)), (fun k => ([] : List (Nat → Int64)).getD k (fun _ => 0))), rfl, ⟨(show ((x_7 : Int32).toInt = -1 ∨ ((0 : Int) ≤ p2.toInt + (0) ∧ (p2.toInt : Int) ≤ v1_0.toInt + (-1))) by omega), trivial⟩, by rw [ht]; exact hP9, va_K.moved hW.alike hK9, hD9⟩, hS.F ht⟩) hS.2.2 dX9_formatOf_46
set_option maxHeartbeats 4000000 in
set_option maxRecDepth 100000 in
theorem zs_X9_isAnswer (l : Launch) (dC : Nat → ClassId) (dI : Nat → Nat → Nat) (h0 : Nat) (p1 : Int32) (v0_0 : Int32) (r0_1 : Nat) (r0_2 : Nat) (r0_3 : Nat) (r0_4 : Nat) (v0_5 : Int32) (r0_6 : Nat) (r0_7 : Nat) (r0_8 : Nat) (v1_0 : Int32) (v1_1 : Int32) (r1_2 : Nat) (r1_3 : Nat) (r1_4 : Nat) (r1_5 : Nat) (r1_6 : Nat) (r1_7 : Nat) (r1_8 : Nat) (r1_9 : Nat) (k2 : Nat) (f2 : Nat → Int32) (hq_v0_0 : (0 : Int) ≤ v0_0.toInt ∧ v0_0.toInt ≤ 4) (hq_v1_0 : (0 : Int) ≤ v1_0.toInt ∧ v1_0.toInt ≤ 14) (sz : Nat) : Met l yX9_isAnswer wsX9_isAnswer ({ frames := 1, cells := 0, slots := 0, locals := 21 }) (va_Pc [.ref h0, .int p1] (fun U => U.heap.size = sz ∧ va_P (dC, dI) vwCl [(h0, .inr (9, [.int v0_0, .ref r0_1, .ref r0_2, .ref r0_3, .ref r0_4, .int v0_5, .ref r0_6, .ref r0_7, .ref r0_8])), (r0_6, .inr (4, [.int v1_0, .int v1_1, .ref r1_2, .ref r1_3, .ref r1_4, .ref r1_5, .ref r1_6, .ref r1_7, .ref r1_8, .ref r1_9])), (r1_5, .inl (k2, 14, .inl f2))] U.heap ∧ va_K (dC, dI) vwCl [(k2, .int)] U ∧ va_D (fun _ => True) [(h0, .inr (9, [.int v0_0, .ref r0_1, .ref r0_2, .ref r0_3, .ref r0_4, .int v0_5, .ref r0_6, .ref r0_7, .ref r0_8])), (r0_6, .inr (4, [.int v1_0, .int v1_1, .ref r1_2, .ref r1_3, .ref r1_4, .ref r1_5, .ref r1_6, .ref r1_7, .ref r1_8, .ref r1_9])), (r1_5, .inl (k2, 14, .inl f2))])) (va_Qi (fun (r : Int32) (u : zV) => ((0 : Int) ≤ r.toInt ∧ r.toInt ≤ 1) ∧ (r.toInt = 0 ∨ ((0 : Int) ≤ p1.toInt + (0) ∧ (p1.toInt : Int) ≤ v1_0.toInt + (-1))) ∧ True) (fun u t => va_P (dC, dI) vwCl [(h0, .inr (9, [.int v0_0, .ref r0_1, .ref r0_2, .ref r0_3, .ref r0_4, .int v0_5, .ref r0_6, .ref r0_7, .ref r0_8])), (r0_6, .inr (4, [.int v1_0, .int v1_1, .ref r1_2, .ref r1_3, .ref r1_4, .ref r1_5, .ref r1_6, .ref r1_7, .ref r1_8, .ref r1_9])), (r1_5, .inl (k2, 14, .inl f2))] t.heap ∧ va_K (dC, dI) vwCl [(k2, .int)] t ∧ va_D (va_A [(h0, .inr (9, [.int v0_0, .ref r0_1, .ref r0_2, .ref r0_3, .ref r0_4, .int v0_5, .ref r0_6, .ref r0_7, .ref r0_8])), (r0_6, .inr (4, [.int v1_0, .int v1_1, .ref r1_2, .ref r1_3, .ref r1_4, .ref r1_5, .ref r1_6, .ref r1_7, .ref r1_8, .ref r1_9])), (r1_5, .inl (k2, 14, .inl f2))] sz) [(h0, .inr (9, [.int v0_0, .ref r0_1, .ref r0_2, .ref r0_3, .ref r0_4, .int v0_5, .ref r0_6, .ref r0_7, .ref r0_8])), (r0_6, .inr (4, [.int v1_0, .int v1_1, .ref r1_2, .ref r1_3, .ref r1_4, .ref r1_5, .ref r1_6, .ref r1_7, .ref r1_8, .ref r1_9])), (r1_5, .inl (k2, 14, .inl f2))]) (va_A [(h0, .inr (9, [.int v0_0, .ref r0_1, .ref r0_2, .ref r0_3, .ref r0_4, .int v0_5, .ref r0_6, .ref r0_7, .ref r0_8])), (r0_6, .inr (4, [.int v1_0, .int v1_1, .ref r1_2, .ref r1_3, .ref r1_4, .ref r1_5, .ref r1_6, .ref r1_7, .ref r1_8, .ref r1_9])), (r1_5, .inl (k2, 14, .inl f2))] sz)) 0 0 (va_A [(h0, .inr (9, [.int v0_0, .ref r0_1, .ref r0_2, .ref r0_3, .ref r0_4, .int v0_5, .ref r0_6, .ref r0_7, .ref r0_8])), (r0_6, .inr (4, [.int v1_0, .int v1_1, .ref r1_2, .ref r1_3, .ref r1_4, .ref r1_5, .ref r1_6, .ref r1_7, .ref r1_8, .ref r1_9])), (r1_5, .inl (k2, 14, .inl f2))] sz) := by
  refine Met.ofW (cc := cX9_isAnswer) (maxL := 2) (ret := (some .boolean)) (by decide +kernel) rfl ?_
  intro p e s m args below meth c s₁ B hml hv
  obtain ⟨rfl, hsz, hP, hK, hD0⟩ := hv
  have hx := B.exec
  have hb := B.bytes
  have hr := B.returns
  have hts := atoms_spec (ws := wsX9_isAnswer) B.pre
  have hown : s.vm.findClass RX9 = some m.cls := findClass_of_methodNamed B.named
  have hlocks := B.notSynchronized
  subst hsz
  have hD := hD0.self (sz := s.heap.size)
  generalize hAe : va_A [(h0, .inr (9, [.int v0_0, .ref r0_1, .ref r0_2, .ref r0_3, .ref r0_4, .int v0_5, .ref r0_6, .ref r0_7, .ref r0_8])), (r0_6, .inr (4, [.int v1_0, .int v1_1, .ref r1_2, .ref r1_3, .ref r1_4, .ref r1_5, .ref r1_6, .ref r1_7, .ref r1_8, .ref r1_9])), (r1_5, .inl (k2, 14, .inl f2))] s.heap.size = A at hD ⊢
  have hA : ∀ q : Nat, s.heap.size ≤ q → A q := fun q h => by rw [← hAe]; exact Or.inr h
  have hS : va_S A s.heap s.heap [] := va_S.rf
  have hP : va_P (dC, dI) vwCl [(h0, .inr (9, [.int v0_0, .ref r0_1, .ref r0_2, .ref r0_3, .ref r0_4, .int v0_5, .ref r0_6, .ref r0_7, .ref r0_8])), (r0_6, .inr (4, [.int v1_0, .int v1_1, .ref r1_2, .ref r1_3, .ref r1_4, .ref r1_5, .ref r1_6, .ref r1_7, .ref r1_8, .ref r1_9])), (r1_5, .inl (k2, 14, .inl f2))] s.heap := hP
  have hl := lv_entry ([.ref h0, .int p1]) (n := 2) (Nat.le_of_ble_eq_true rfl)
  rw [lg_entry_eq]
  generalize (lg_sl ([.ref h0, .int p1]) ++ List.replicate (2 - (lg_sl ([.ref h0, .int p1])).length) Slot.unset).toArray = ls at hl ⊢
  have hl : lv_has ls 2 [(0, .ref h0), (1, .int p1)] := hl
  generalize hQ : MQ below (va_Qi (fun (r : Int32) (u : zV) => ((0 : Int) ≤ r.toInt ∧ r.toInt ≤ 1) ∧ (r.toInt = 0 ∨ ((0 : Int) ≤ p1.toInt + (0) ∧ (p1.toInt : Int) ≤ v1_0.toInt + (-1))) ∧ True) (fun u t => va_P (dC, dI) vwCl [(h0, .inr (9, [.int v0_0, .ref r0_1, .ref r0_2, .ref r0_3, .ref r0_4, .int v0_5, .ref r0_6, .ref r0_7, .ref r0_8])), (r0_6, .inr (4, [.int v1_0, .int v1_1, .ref r1_2, .ref r1_3, .ref r1_4, .ref r1_5, .ref r1_6, .ref r1_7, .ref r1_8, .ref r1_9])), (r1_5, .inl (k2, 14, .inl f2))] t.heap ∧ va_K (dC, dI) vwCl [(k2, .int)] t ∧ va_D A [(h0, .inr (9, [.int v0_0, .ref r0_1, .ref r0_2, .ref r0_3, .ref r0_4, .int v0_5, .ref r0_6, .ref r0_7, .ref r0_8])), (r0_6, .inr (4, [.int v1_0, .int v1_1, .ref r1_2, .ref r1_3, .ref r1_4, .ref r1_5, .ref r1_6, .ref r1_7, .ref r1_8, .ref r1_9])), (r1_5, .inl (k2, 14, .inl f2))]) A) ([.ref h0, .int p1] : List Value).toArray s 0 0 A = Q
  refine lv_aload_n hx hb dX9_isAnswer_0 rfl (lv_at hl 0 rfl) ?_
  refine lv_iload_n hx hb dX9_isAnswer_1 rfl (lv_at hl 1 rfl) ?_
  have hPc := hP.sub (ws' := [(h0, .inr (9, [.int v0_0, .ref r0_1, .ref r0_2, .ref r0_3, .ref r0_4, .int v0_5, .ref r0_6, .ref r0_7, .ref r0_8])), (r0_6, .inr (4, [.int v1_0, .int v1_1, .ref r1_2, .ref r1_3, .ref r1_4, .ref r1_5, .ref r1_6, .ref r1_7, .ref r1_8, .ref r1_9]))]) [0, 1] rfl
  have hDc := hD.sub (ws' := [(h0, .inr (9, [.int v0_0, .ref r0_1, .ref r0_2, .ref r0_3, .ref r0_4, .int v0_5, .ref r0_6, .ref r0_7, .ref r0_8])), (r0_6, .inr (4, [.int v1_0, .int v1_1, .ref r1_2, .ref r1_3, .ref r1_4, .ref r1_5, .ref r1_6, .ref r1_7, .ref r1_8, .ref r1_9]))]) [0, 1] (by decide) rfl
  have hKc := hK.sub (tys' := []) [] rfl
  have hFc := va_free (wc := [(h0, .inr (9, [.int v0_0, .ref r0_1, .ref r0_2, .ref r0_3, .ref r0_4, .int v0_5, .ref r0_6, .ref r0_7, .ref r0_8])), (r0_6, .inr (4, [.int v1_0, .int v1_1, .ref r1_2, .ref r1_3, .ref r1_4, .ref r1_5, .ref r1_6, .ref r1_7, .ref r1_8, .ref r1_9]))]) hD hS hA [0, 1] rfl
  refine va_calli (va_runV (As := [.int p1]) (rest := []) ⟨hx, hb, hml, hown, hts⟩ (zs_X9_hasNumber l dC dI h0 p1 v0_0 r0_1 r0_2 r0_3 r0_4 v0_5 r0_6 r0_7 r0_8 v1_0 v1_1 r1_2 r1_3 r1_4 r1_5 r1_6 r1_7 r1_8 r1_9 (by omega) (by omega) s.heap.size) (cwV 1 hts gX9_isAnswer_X9_hasNumber rfl rfl rfl (by decide +kernel) ⟨Nat.le_of_ble_eq_true rfl, Nat.le_of_ble_eq_true rfl⟩) ⟨fun a U g mk q => by obtain ⟨q0, q1, qP, qK, qD⟩ := q; exact ⟨q0, q1, qP, va_K.moved (u := U) (U := U.calling g mk a) (Vm.Alike.refl U.vm) qK, qD⟩, va_recv hKc hPc (ci := 9) (q0 := 0) rfl rfl, fun U hU hW => ⟨rfl, by rw [hU], by rw [hU]; exact hPc, va_K.moved hW.alike hKc, hDc.weaken (fun _ _ _ _ => trivial)⟩⟩ rfl rfl hl.1 rfl (lv_room (Nat.le_of_ble_eq_true rfl)) dX9_isAnswer_2 ⟨Nat.le_of_ble_eq_true rfl, Nat.le_of_ble_eq_true rfl⟩) hS (fun q _ h => hFc q h) hFc (fun r_1 u_2 t H1 locs ht hvm hw_3 hB hz1 hk1 hS => ?_)
  obtain ⟨hP1, hK1, hD1⟩ := hB
  rw [ht] at hP1
  have hK1 := va_K.moved hvm.symm hK1
  obtain ⟨hP, hD⟩ := va_join (wr := [(r1_5, .inl (k2, 14, .inl f2))]) (w1 := [(h0, .inr (9, [.int v0_0, .ref r0_1, .ref r0_2, .ref r0_3, .ref r0_4, .int v0_5, .ref r0_6, .ref r0_7, .ref r0_8])), (r0_6, .inr (4, [.int v1_0, .int v1_1, .ref r1_2, .ref r1_3, .ref r1_4, .ref r1_5, .ref r1_6, .ref r1_7, .ref r1_8, .ref r1_9]))]) hP hD [0, 1] [2] rfl rfl (by decide) (by decide) hk1 hFc hP1 hD1
  have hK := hK
  generalize H1 = H at hP hS ⊢
  have hP := hP.sub (ws' := [(h0, .inr (9, [.int v0_0, .ref r0_1, .ref r0_2, .ref r0_3, .ref r0_4, .int v0_5, .ref r0_6, .ref r0_7, .ref r0_8])), (r0_6, .inr (4, [.int v1_0, .int v1_1, .ref r1_2, .ref r1_3, .ref r1_4, .ref r1_5, .ref r1_6, .ref r1_7, .ref r1_8, .ref r1_9])), (r1_5, .inl (k2, 14, .inl f2))]) [1, 2, 0] rfl
  have hD := hD.sub (ws' := [(h0, .inr (9, [.int v0_0, .ref r0_1, .ref r0_2, .ref r0_3, .ref r0_4, .int v0_5, .ref r0_6, .ref r0_7, .ref r0_8])), (r0_6, .inr (4, [.int v1_0, .int v1_1, .ref r1_2, .ref r1_3, .ref r1_4, .ref r1_5, .ref r1_6, .ref r1_7, .ref r1_8, .ref r1_9])), (r1_5, .inl (k2, 14, .inl f2))]) [1, 2, 0] (by decide) rfl
  have hP : va_P (dC, dI) vwCl [(h0, .inr (9, [.int v0_0, .ref r0_1, .ref r0_2, .ref r0_3, .ref r0_4, .int v0_5, .ref r0_6, .ref r0_7, .ref r0_8])), (r0_6, .inr (4, [.int v1_0, .int v1_1, .ref r1_2, .ref r1_3, .ref r1_4, .ref r1_5, .ref r1_6, .ref r1_7, .ref r1_8, .ref r1_9])), (r1_5, .inl (k2, 14, .inl f2))] H := hP
  have hD : va_D A [(h0, .inr (9, [.int v0_0, .ref r0_1, .ref r0_2, .ref r0_3, .ref r0_4, .int v0_5, .ref r0_6, .ref r0_7, .ref r0_8])), (r0_6, .inr (4, [.int v1_0, .int v1_1, .ref r1_2, .ref r1_3, .ref r1_4, .ref r1_5, .ref r1_6, .ref r1_7, .ref r1_8, .ref r1_9])), (r1_5, .inl (k2, 14, .inl f2))] := hD
  obtain ⟨hr_1, hir_1, -⟩ := hw_3
  refine lv_if_eq (tgt := 25) hx hb dX9_isAnswer_5 (by decide) (fun c_4 => ?_) (fun c_4 => ?_)
  · have oc_4 := zk_eq rfl (by decide +kernel : (0 : Int32).toInt = 0) c_4
    refine lv_iconst (v := 0) hx hb dX9_isAnswer_25 (by decide +kernel) ?_
    have hP9 := hP.sub (ws' := [(h0, .inr (9, [.int v0_0, .ref r0_1, .ref r0_2, .ref r0_3, .ref r0_4, .int v0_5, .ref r0_6, .ref r0_7, .ref r0_8])), (r0_6, .inr (4, [.int v1_0, .int v1_1, .ref r1_2, .ref r1_3, .ref r1_4, .ref r1_5, .ref r1_6, .ref r1_7, .ref r1_8, .ref r1_9])), (r1_5, .inl (k2, 14, .inl f2))]) [0, 1, 2] rfl
    have hD9 := hD.sub (ws' := [(h0, .inr (9, [.int v0_0, .ref r0_1, .ref r0_2, .ref r0_3, .ref r0_4, .int v0_5, .ref r0_6, .ref r0_7, .ref r0_8])), (r0_6, .inr (4, [.int v1_0, .int v1_1, .ref r1_2, .ref r1_3, .ref r1_4, .ref r1_5, .ref r1_6, .ref r1_7, .ref r1_8, .ref r1_9])), (r1_5, .inl (k2, 14, .inl f2))]) [0, 1, 2] (by decide) rfl
    have hK9 := hK.sub (tys' := [(k2, .int)]) [0] rfl
    rw [← hQ]
    exact W.zret (v := 0) hx hb hr rfl (fun t ht hW => ⟨⟨0, ((fun k => ([] : List Int32).getD k 0), (fun k => ([] : List (Nat → Int32)).getD k (fun _ => 0)), (fun k => ([] : List (Nat → Int64)).getD k (fun _ => 0))), rfl, ⟨(show (0 : Int) ≤ (0 : Int32).toInt ∧ (0 : Int32).toInt ≤ 1 by decide +kernel), (show ((0 : Int32).toInt = 0 ∨ ((0 : Int) ≤ p1.toInt + (0) ∧ (p1.toInt : Int) ≤ v1_0.toInt + (-1))) by exact Or.inl (by decide +kernel)), trivial⟩, by rw [ht]; exact hP9, va_K.moved hW.alike hK9, hD9⟩, hS.F ht⟩) hS.2.2 dX9_isAnswer_26
  have oc_4 := zk_ne rfl (by decide +kernel : (0 : Int32).toInt = 0) c_4
  refine lv_aload_n hx hb dX9_isAnswer_8 rfl (lv_at hl 0 rfl) ?_
  refine va_get (D := (dC, dI)) (ci := 9) (v := .ref r0_6) (C := RX9) (T := TX9) (N := 9) hx hb hts zn_X9_isAnswer_X9 hown hK hP 0 rfl rfl 6 (by decide) (hts (.fieldLink RX9 27 "ShortEnough$Task" "numbers" "LShortEnough$Numbers;") zw_X9_isAnswer_32) (fun _ h9 => h9) rfl dX9_isAnswer_9 ?_
  refine va_get (D := (dC, dI)) (ci := 4) (v := .ref r1_5) (C := RX4) (T := TX4) (N := 10) hx hb hts zn_X9_isAnswer_X4 hown hK hP 1 rfl rfl 5 (by decide) (hts (.fieldLink RX9 74 "ShortEnough$Numbers" "allowed" "[I") zw_X9_isAnswer_34) (fun _ h9 => h9) rfl dX9_isAnswer_12 ?_
  refine lv_iload_n hx hb dX9_isAnswer_15 rfl (lv_at hl 1 rfl) ?_
  refine va_iald hx hb hK hP 2 0 rfl rfl (vp_in_iff.mpr ⟨by omega, by omega⟩) dX9_isAnswer_16 ?_
  refine lv_topi (fun x_5 ex_5 => ?_)
  refine lv_iconst (v := (-1)) hx hb dX9_isAnswer_17 (by decide +kernel) ?_
  refine lv_icmp_eq (tgt := 25) hx hb dX9_isAnswer_18 (by decide) (fun c_6 => ?_) (fun c_6 => ?_)
  · have oc_6 := zk_eq rfl (by decide +kernel : ((-1) : Int32).toInt = -1) c_6
    refine lv_iconst (v := 0) hx hb dX9_isAnswer_25 (by decide +kernel) ?_
    have hP9 := hP.sub (ws' := [(h0, .inr (9, [.int v0_0, .ref r0_1, .ref r0_2, .ref r0_3, .ref r0_4, .int v0_5, .ref r0_6, .ref r0_7, .ref r0_8])), (r0_6, .inr (4, [.int v1_0, .int v1_1, .ref r1_2, .ref r1_3, .ref r1_4, .ref r1_5, .ref r1_6, .ref r1_7, .ref r1_8, .ref r1_9])), (r1_5, .inl (k2, 14, .inl f2))]) [0, 1, 2] rfl
    have hD9 := hD.sub (ws' := [(h0, .inr (9, [.int v0_0, .ref r0_1, .ref r0_2, .ref r0_3, .ref r0_4, .int v0_5, .ref r0_6, .ref r0_7, .ref r0_8])), (r0_6, .inr (4, [.int v1_0, .int v1_1, .ref r1_2, .ref r1_3, .ref r1_4, .ref r1_5, .ref r1_6, .ref r1_7, .ref r1_8, .ref r1_9])), (r1_5, .inl (k2, 14, .inl f2))]) [0, 1, 2] (by decide) rfl
    have hK9 := hK.sub (tys' := [(k2, .int)]) [0] rfl
    rw [← hQ]
    exact W.zret (v := 0) hx hb hr rfl (fun t ht hW => ⟨⟨0, ((fun k => ([] : List Int32).getD k 0), (fun k => ([] : List (Nat → Int32)).getD k (fun _ => 0)), (fun k => ([] : List (Nat → Int64)).getD k (fun _ => 0))), rfl, ⟨(show (0 : Int) ≤ (0 : Int32).toInt ∧ (0 : Int32).toInt ≤ 1 by decide +kernel), (show ((0 : Int32).toInt = 0 ∨ ((0 : Int) ≤ p1.toInt + (0) ∧ (p1.toInt : Int) ≤ v1_0.toInt + (-1))) by exact Or.inl (by decide +kernel)), trivial⟩, by rw [ht]; exact hP9, va_K.moved hW.alike hK9, hD9⟩, hS.F ht⟩) hS.2.2 dX9_isAnswer_26
  have oc_6 := zk_ne rfl (by decide +kernel : ((-1) : Int32).toInt = -1) c_6
  refine lv_iconst (v := 1) hx hb dX9_isAnswer_21 (by decide +kernel) ?_
  refine lv_goto (tgt := 26) hx hb dX9_isAnswer_22 (by decide) ?_
  have hP9 := hP.sub (ws' := [(h0, .inr (9, [.int v0_0, .ref r0_1, .ref r0_2, .ref r0_3, .ref r0_4, .int v0_5, .ref r0_6, .ref r0_7, .ref r0_8])), (r0_6, .inr (4, [.int v1_0, .int v1_1, .ref r1_2, .ref r1_3, .ref r1_4, .ref r1_5, .ref r1_6, .ref r1_7, .ref r1_8, .ref r1_9])), (r1_5, .inl (k2, 14, .inl f2))]) [0, 1, 2] rfl
  have hD9 := hD.sub (ws' := [(h0, .inr (9, [.int v0_0, .ref r0_1, .ref r0_2, .ref r0_3, .ref r0_4, .int v0_5, .ref r0_6, .ref r0_7, .ref r0_8])), (r0_6, .inr (4, [.int v1_0, .int v1_1, .ref r1_2, .ref r1_3, .ref r1_4, .ref r1_5, .ref r1_6, .ref r1_7, .ref r1_8, .ref r1_9])), (r1_5, .inl (k2, 14, .inl f2))]) [0, 1, 2] (by decide) rfl
  have hK9 := hK.sub (tys' := [(k2, .int)]) [0] rfl
  rw [← hQ]
  exact W.zret (v := 1) hx hb hr rfl (fun t ht hW => ⟨⟨1, ((fun k => ([] : List Int32).getD k 0), (fun k => ([] : List (Nat → Int32)).getD k (fun _ => 0)), (fun k => ([] : List (Nat → Int64)).getD k (fun _ => 0))), rfl, ⟨(show (0 : Int) ≤ (1 : Int32).toInt ∧ (1 : Int32).toInt ≤ 1 by decide +kernel), (show ((1 : Int32).toInt = 0 ∨ ((0 : Int) ≤ p1.toInt + (0) ∧ (p1.toInt : Int) ≤ v1_0.toInt + (-1))) by right; omega), trivial⟩, by rw [ht]; exact hP9, va_K.moved hW.alike hK9, hD9⟩, hS.F ht⟩) hS.2.2 dX9_isAnswer_26
set_option maxHeartbeats 4000000 in
set_option maxRecDepth 100000 in
theorem zs_X9_isInput (l : Launch) (dC : Nat → ClassId) (dI : Nat → Nat → Nat) (h0 : Nat) (p1 : Int32) (v0_0 : Int32) (r0_1 : Nat) (r0_2 : Nat) (r0_3 : Nat) (r0_4 : Nat) (v0_5 : Int32) (r0_6 : Nat) (r0_7 : Nat) (r0_8 : Nat) (v1_0 : Int32) (v1_1 : Int32) (r1_2 : Nat) (r1_3 : Nat) (r1_4 : Nat) (r1_5 : Nat) (r1_6 : Nat) (r1_7 : Nat) (r1_8 : Nat) (r1_9 : Nat) (k2 : Nat) (f2 : Nat → Int32) (hq_v0_0 : (0 : Int) ≤ v0_0.toInt ∧ v0_0.toInt ≤ 4) (hq_v1_0 : (0 : Int) ≤ v1_0.toInt ∧ v1_0.toInt ≤ 14) (sz : Nat) : Met l yX9_isInput wsX9_isInput ({ frames := 1, cells := 0, slots := 0, locals := 21 }) (va_Pc [.ref h0, .int p1] (fun U => U.heap.size = sz ∧ va_P (dC, dI) vwCl [(h0, .inr (9, [.int v0_0, .ref r0_1, .ref r0_2, .ref r0_3, .ref r0_4, .int v0_5, .ref r0_6, .ref r0_7, .ref r0_8])), (r0_6, .inr (4, [.int v1_0, .int v1_1, .ref r1_2, .ref r1_3, .ref r1_4, .ref r1_5, .ref r1_6, .ref r1_7, .ref r1_8, .ref r1_9])), (r1_3, .inl (k2, 14, .inl f2))] U.heap ∧ va_K (dC, dI) vwCl [(k2, .int)] U ∧ va_D (fun _ => True) [(h0, .inr (9, [.int v0_0, .ref r0_1, .ref r0_2, .ref r0_3, .ref r0_4, .int v0_5, .ref r0_6, .ref r0_7, .ref r0_8])), (r0_6, .inr (4, [.int v1_0, .int v1_1, .ref r1_2, .ref r1_3, .ref r1_4, .ref r1_5, .ref r1_6, .ref r1_7, .ref r1_8, .ref r1_9])), (r1_3, .inl (k2, 14, .inl f2))])) (va_Qi (fun (r : Int32) (u : zV) => ((0 : Int) ≤ r.toInt ∧ r.toInt ≤ 1) ∧ (r.toInt = 0 ∨ ((0 : Int) ≤ p1.toInt + (0) ∧ (p1.toInt : Int) ≤ v1_0.toInt + (-1))) ∧ True) (fun u t => va_P (dC, dI) vwCl [(h0, .inr (9, [.int v0_0, .ref r0_1, .ref r0_2, .ref r0_3, .ref r0_4, .int v0_5, .ref r0_6, .ref r0_7, .ref r0_8])), (r0_6, .inr (4, [.int v1_0, .int v1_1, .ref r1_2, .ref r1_3, .ref r1_4, .ref r1_5, .ref r1_6, .ref r1_7, .ref r1_8, .ref r1_9])), (r1_3, .inl (k2, 14, .inl f2))] t.heap ∧ va_K (dC, dI) vwCl [(k2, .int)] t ∧ va_D (va_A [(h0, .inr (9, [.int v0_0, .ref r0_1, .ref r0_2, .ref r0_3, .ref r0_4, .int v0_5, .ref r0_6, .ref r0_7, .ref r0_8])), (r0_6, .inr (4, [.int v1_0, .int v1_1, .ref r1_2, .ref r1_3, .ref r1_4, .ref r1_5, .ref r1_6, .ref r1_7, .ref r1_8, .ref r1_9])), (r1_3, .inl (k2, 14, .inl f2))] sz) [(h0, .inr (9, [.int v0_0, .ref r0_1, .ref r0_2, .ref r0_3, .ref r0_4, .int v0_5, .ref r0_6, .ref r0_7, .ref r0_8])), (r0_6, .inr (4, [.int v1_0, .int v1_1, .ref r1_2, .ref r1_3, .ref r1_4, .ref r1_5, .ref r1_6, .ref r1_7, .ref r1_8, .ref r1_9])), (r1_3, .inl (k2, 14, .inl f2))]) (va_A [(h0, .inr (9, [.int v0_0, .ref r0_1, .ref r0_2, .ref r0_3, .ref r0_4, .int v0_5, .ref r0_6, .ref r0_7, .ref r0_8])), (r0_6, .inr (4, [.int v1_0, .int v1_1, .ref r1_2, .ref r1_3, .ref r1_4, .ref r1_5, .ref r1_6, .ref r1_7, .ref r1_8, .ref r1_9])), (r1_3, .inl (k2, 14, .inl f2))] sz)) 0 0 (va_A [(h0, .inr (9, [.int v0_0, .ref r0_1, .ref r0_2, .ref r0_3, .ref r0_4, .int v0_5, .ref r0_6, .ref r0_7, .ref r0_8])), (r0_6, .inr (4, [.int v1_0, .int v1_1, .ref r1_2, .ref r1_3, .ref r1_4, .ref r1_5, .ref r1_6, .ref r1_7, .ref r1_8, .ref r1_9])), (r1_3, .inl (k2, 14, .inl f2))] sz) := by
  refine Met.ofW (cc := cX9_isInput) (maxL := 2) (ret := (some .boolean)) (by decide +kernel) rfl ?_
  intro p e s m args below meth c s₁ B hml hv
  obtain ⟨rfl, hsz, hP, hK, hD0⟩ := hv
  have hx := B.exec
  have hb := B.bytes
  have hr := B.returns
  have hts := atoms_spec (ws := wsX9_isInput) B.pre
  have hown : s.vm.findClass RX9 = some m.cls := findClass_of_methodNamed B.named
  have hlocks := B.notSynchronized
  subst hsz
  have hD := hD0.self (sz := s.heap.size)
  generalize hAe : va_A [(h0, .inr (9, [.int v0_0, .ref r0_1, .ref r0_2, .ref r0_3, .ref r0_4, .int v0_5, .ref r0_6, .ref r0_7, .ref r0_8])), (r0_6, .inr (4, [.int v1_0, .int v1_1, .ref r1_2, .ref r1_3, .ref r1_4, .ref r1_5, .ref r1_6, .ref r1_7, .ref r1_8, .ref r1_9])), (r1_3, .inl (k2, 14, .inl f2))] s.heap.size = A at hD ⊢
  have hA : ∀ q : Nat, s.heap.size ≤ q → A q := fun q h => by rw [← hAe]; exact Or.inr h
  have hS : va_S A s.heap s.heap [] := va_S.rf
  have hP : va_P (dC, dI) vwCl [(h0, .inr (9, [.int v0_0, .ref r0_1, .ref r0_2, .ref r0_3, .ref r0_4, .int v0_5, .ref r0_6, .ref r0_7, .ref r0_8])), (r0_6, .inr (4, [.int v1_0, .int v1_1, .ref r1_2, .ref r1_3, .ref r1_4, .ref r1_5, .ref r1_6, .ref r1_7, .ref r1_8, .ref r1_9])), (r1_3, .inl (k2, 14, .inl f2))] s.heap := hP
  have hl := lv_entry ([.ref h0, .int p1]) (n := 2) (Nat.le_of_ble_eq_true rfl)
  rw [lg_entry_eq]
  generalize (lg_sl ([.ref h0, .int p1]) ++ List.replicate (2 - (lg_sl ([.ref h0, .int p1])).length) Slot.unset).toArray = ls at hl ⊢
  have hl : lv_has ls 2 [(0, .ref h0), (1, .int p1)] := hl
  generalize hQ : MQ below (va_Qi (fun (r : Int32) (u : zV) => ((0 : Int) ≤ r.toInt ∧ r.toInt ≤ 1) ∧ (r.toInt = 0 ∨ ((0 : Int) ≤ p1.toInt + (0) ∧ (p1.toInt : Int) ≤ v1_0.toInt + (-1))) ∧ True) (fun u t => va_P (dC, dI) vwCl [(h0, .inr (9, [.int v0_0, .ref r0_1, .ref r0_2, .ref r0_3, .ref r0_4, .int v0_5, .ref r0_6, .ref r0_7, .ref r0_8])), (r0_6, .inr (4, [.int v1_0, .int v1_1, .ref r1_2, .ref r1_3, .ref r1_4, .ref r1_5, .ref r1_6, .ref r1_7, .ref r1_8, .ref r1_9])), (r1_3, .inl (k2, 14, .inl f2))] t.heap ∧ va_K (dC, dI) vwCl [(k2, .int)] t ∧ va_D A [(h0, .inr (9, [.int v0_0, .ref r0_1, .ref r0_2, .ref r0_3, .ref r0_4, .int v0_5, .ref r0_6, .ref r0_7, .ref r0_8])), (r0_6, .inr (4, [.int v1_0, .int v1_1, .ref r1_2, .ref r1_3, .ref r1_4, .ref r1_5, .ref r1_6, .ref r1_7, .ref r1_8, .ref r1_9])), (r1_3, .inl (k2, 14, .inl f2))]) A) ([.ref h0, .int p1] : List Value).toArray s 0 0 A = Q
  refine lv_aload_n hx hb dX9_isInput_0 rfl (lv_at hl 0 rfl) ?_
  refine lv_iload_n hx hb dX9_isInput_1 rfl (lv_at hl 1 rfl) ?_
  have hPc := hP.sub (ws' := [(h0, .inr (9, [.int v0_0, .ref r0_1, .ref r0_2, .ref r0_3, .ref r0_4, .int v0_5, .ref r0_6, .ref r0_7, .ref r0_8])), (r0_6, .inr (4, [.int v1_0, .int v1_1, .ref r1_2, .ref r1_3, .ref r1_4, .ref r1_5, .ref r1_6, .ref r1_7, .ref r1_8, .ref r1_9]))]) [0, 1] rfl
  have hDc := hD.sub (ws' := [(h0, .inr (9, [.int v0_0, .ref r0_1, .ref r0_2, .ref r0_3, .ref r0_4, .int v0_5, .ref r0_6, .ref r0_7, .ref r0_8])), (r0_6, .inr (4, [.int v1_0, .int v1_1, .ref r1_2, .ref r1_3, .ref r1_4, .ref r1_5, .ref r1_6, .ref r1_7, .ref r1_8, .ref r1_9]))]) [0, 1] (by decide) rfl
  have hKc := hK.sub (tys' := []) [] rfl
  have hFc := va_free (wc := [(h0, .inr (9, [.int v0_0, .ref r0_1, .ref r0_2, .ref r0_3, .ref r0_4, .int v0_5, .ref r0_6, .ref r0_7, .ref r0_8])), (r0_6, .inr (4, [.int v1_0, .int v1_1, .ref r1_2, .ref r1_3, .ref r1_4, .ref r1_5, .ref r1_6, .ref r1_7, .ref r1_8, .ref r1_9]))]) hD hS hA [0, 1] rfl
  refine va_calli (va_runV (As := [.int p1]) (rest := []) ⟨hx, hb, hml, hown, hts⟩ (zs_X9_hasNumber l dC dI h0 p1 v0_0 r0_1 r0_2 r0_3 r0_4 v0_5 r0_6 r0_7 r0_8 v1_0 v1_1 r1_2 r1_3 r1_4 r1_5 r1_6 r1_7 r1_8 r1_9 (by omega) (by omega) s.heap.size) (cwV 1 hts gX9_isInput_X9_hasNumber rfl rfl rfl (by decide +kernel) ⟨Nat.le_of_ble_eq_true rfl, Nat.le_of_ble_eq_true rfl⟩) ⟨fun a U g mk q => by obtain ⟨q0, q1, qP, qK, qD⟩ := q; exact ⟨q0, q1, qP, va_K.moved (u := U) (U := U.calling g mk a) (Vm.Alike.refl U.vm) qK, qD⟩, va_recv hKc hPc (ci := 9) (q0 := 0) rfl rfl, fun U hU hW => ⟨rfl, by rw [hU], by rw [hU]; exact hPc, va_K.moved hW.alike hKc, hDc.weaken (fun _ _ _ _ => trivial)⟩⟩ rfl rfl hl.1 rfl (lv_room (Nat.le_of_ble_eq_true rfl)) dX9_isInput_2 ⟨Nat.le_of_ble_eq_true rfl, Nat.le_of_ble_eq_true rfl⟩) hS (fun q _ h => hFc q h) hFc (fun r_1 u_2 t H1 locs ht hvm hw_3 hB hz1 hk1 hS => ?_)
  obtain ⟨hP1, hK1, hD1⟩ := hB
  rw [ht] at hP1
  have hK1 := va_K.moved hvm.symm hK1
  obtain ⟨hP, hD⟩ := va_join (wr := [(r1_3, .inl (k2, 14, .inl f2))]) (w1 := [(h0, .inr (9, [.int v0_0, .ref r0_1, .ref r0_2, .ref r0_3, .ref r0_4, .int v0_5, .ref r0_6, .ref r0_7, .ref r0_8])), (r0_6, .inr (4, [.int v1_0, .int v1_1, .ref r1_2, .ref r1_3, .ref r1_4, .ref r1_5, .ref r1_6, .ref r1_7, .ref r1_8, .ref r1_9]))]) hP hD [0, 1] [2] rfl rfl (by decide) (by decide) hk1 hFc hP1 hD1
  have hK := hK
  generalize H1 = H at hP hS ⊢
  have hP := hP.sub (ws' := [(h0, .inr (9, [.int v0_0, .ref r0_1, .ref r0_2, .ref r0_3, .ref r0_4, .int v0_5, .ref r0_6, .ref r0_7, .ref r0_8])), (r0_6, .inr (4, [.int v1_0, .int v1_1, .ref r1_2, .ref r1_3, .ref r1_4, .ref r1_5, .ref r1_6, .ref r1_7, .ref r1_8, .ref r1_9])), (r1_3, .inl (k2, 14, .inl f2))]) [1, 2, 0] rfl
  have hD := hD.sub (ws' := [(h0, .inr (9, [.int v0_0, .ref r0_1, .ref r0_2, .ref r0_3, .ref r0_4, .int v0_5, .ref r0_6, .ref r0_7, .ref r0_8])), (r0_6, .inr (4, [.int v1_0, .int v1_1, .ref r1_2, .ref r1_3, .ref r1_4, .ref r1_5, .ref r1_6, .ref r1_7, .ref r1_8, .ref r1_9])), (r1_3, .inl (k2, 14, .inl f2))]) [1, 2, 0] (by decide) rfl
  have hP : va_P (dC, dI) vwCl [(h0, .inr (9, [.int v0_0, .ref r0_1, .ref r0_2, .ref r0_3, .ref r0_4, .int v0_5, .ref r0_6, .ref r0_7, .ref r0_8])), (r0_6, .inr (4, [.int v1_0, .int v1_1, .ref r1_2, .ref r1_3, .ref r1_4, .ref r1_5, .ref r1_6, .ref r1_7, .ref r1_8, .ref r1_9])), (r1_3, .inl (k2, 14, .inl f2))] H := hP
  have hD : va_D A [(h0, .inr (9, [.int v0_0, .ref r0_1, .ref r0_2, .ref r0_3, .ref r0_4, .int v0_5, .ref r0_6, .ref r0_7, .ref r0_8])), (r0_6, .inr (4, [.int v1_0, .int v1_1, .ref r1_2, .ref r1_3, .ref r1_4, .ref r1_5, .ref r1_6, .ref r1_7, .ref r1_8, .ref r1_9])), (r1_3, .inl (k2, 14, .inl f2))] := hD
  obtain ⟨hr_1, hir_1, -⟩ := hw_3
  refine lv_if_eq (tgt := 24) hx hb dX9_isInput_5 (by decide) (fun c_4 => ?_) (fun c_4 => ?_)
  · have oc_4 := zk_eq rfl (by decide +kernel : (0 : Int32).toInt = 0) c_4
    refine lv_iconst (v := 0) hx hb dX9_isInput_24 (by decide +kernel) ?_
    have hP9 := hP.sub (ws' := [(h0, .inr (9, [.int v0_0, .ref r0_1, .ref r0_2, .ref r0_3, .ref r0_4, .int v0_5, .ref r0_6, .ref r0_7, .ref r0_8])), (r0_6, .inr (4, [.int v1_0, .int v1_1, .ref r1_2, .ref r1_3, .ref r1_4, .ref r1_5, .ref r1_6, .ref r1_7, .ref r1_8, .ref r1_9])), (r1_3, .inl (k2, 14, .inl f2))]) [0, 1, 2] rfl
    have hD9 := hD.sub (ws' := [(h0, .inr (9, [.int v0_0, .ref r0_1, .ref r0_2, .ref r0_3, .ref r0_4, .int v0_5, .ref r0_6, .ref r0_7, .ref r0_8])), (r0_6, .inr (4, [.int v1_0, .int v1_1, .ref r1_2, .ref r1_3, .ref r1_4, .ref r1_5, .ref r1_6, .ref r1_7, .ref r1_8, .ref r1_9])), (r1_3, .inl (k2, 14, .inl f2))]) [0, 1, 2] (by decide) rfl
    have hK9 := hK.sub (tys' := [(k2, .int)]) [0] rfl
    rw [← hQ]
    exact W.zret (v := 0) hx hb hr rfl (fun t ht hW => ⟨⟨0, ((fun k => ([] : List Int32).getD k 0), (fun k => ([] : List (Nat → Int32)).getD k (fun _ => 0)), (fun k => ([] : List (Nat → Int64)).getD k (fun _ => 0))), rfl, ⟨(show (0 : Int) ≤ (0 : Int32).toInt ∧ (0 : Int32).toInt ≤ 1 by decide +kernel), (show ((0 : Int32).toInt = 0 ∨ ((0 : Int) ≤ p1.toInt + (0) ∧ (p1.toInt : Int) ≤ v1_0.toInt + (-1))) by exact Or.inl (by decide +kernel)), trivial⟩, by rw [ht]; exact hP9, va_K.moved hW.alike hK9, hD9⟩, hS.F ht⟩) hS.2.2 dX9_isInput_25
  have oc_4 := zk_ne rfl (by decide +kernel : (0 : Int32).toInt = 0) c_4
  refine lv_aload_n hx hb dX9_isInput_8 rfl (lv_at hl 0 rfl) ?_
  refine va_get (D := (dC, dI)) (ci := 9) (v := .ref r0_6) (C := RX9) (T := TX9) (N := 9) hx hb hts zn_X9_isInput_X9 hown hK hP 0 rfl rfl 6 (by decide) (hts (.fieldLink RX9 27 "ShortEnough$Task" "numbers" "LShortEnough$Numbers;") zw_X9_isInput_36) (fun _ h9 => h9) rfl dX9_isInput_9 ?_
  refine va_get (D := (dC, dI)) (ci := 4) (v := .ref r1_3) (C := RX4) (T := TX4) (N := 10) hx hb hts zn_X9_isInput_X4 hown hK hP 1 rfl rfl 3 (by decide) (hts (.fieldLink RX9 77 "ShortEnough$Numbers" "op" "[I") zw_X9_isInput_38) (fun _ h9 => h9) rfl dX9_isInput_12 ?_
  refine lv_iload_n hx hb dX9_isInput_15 rfl (lv_at hl 1 rfl) ?_
  refine va_iald hx hb hK hP 2 0 rfl rfl (vp_in_iff.mpr ⟨by omega, by omega⟩) dX9_isInput_16 ?_
  refine lv_topi (fun x_5 ex_5 => ?_)
  refine lv_if_ne (tgt := 24) hx hb dX9_isInput_17 (by decide) (fun c_6 => ?_) (fun c_6 => ?_)
  · have oc_6 := zk_ne rfl (by decide +kernel : (0 : Int32).toInt = 0) c_6
    refine lv_iconst (v := 0) hx hb dX9_isInput_24 (by decide +kernel) ?_
    have hP9 := hP.sub (ws' := [(h0, .inr (9, [.int v0_0, .ref r0_1, .ref r0_2, .ref r0_3, .ref r0_4, .int v0_5, .ref r0_6, .ref r0_7, .ref r0_8])), (r0_6, .inr (4, [.int v1_0, .int v1_1, .ref r1_2, .ref r1_3, .ref r1_4, .ref r1_5, .ref r1_6, .ref r1_7, .ref r1_8, .ref r1_9])), (r1_3, .inl (k2, 14, .inl f2))]) [0, 1, 2] rfl
    have hD9 := hD.sub (ws' := [(h0, .inr (9, [.int v0_0, .ref r0_1, .ref r0_2, .ref r0_3, .ref r0_4, .int v0_5, .ref r0_6, .ref r0_7, .ref r0_8])), (r0_6, .inr (4, [.int v1_0, .int v1_1, .ref r1_2, .ref r1_3, .ref r1_4, .ref r1_5, .ref r1_6, .ref r1_7, .ref r1_8, .ref r1_9])), (r1_3, .inl (k2, 14, .inl f2))]) [0, 1, 2] (by decide) rfl
    have hK9 := hK.sub (tys' := [(k2, .int)]) [0] rfl
    rw [← hQ]
    exact W.zret (v := 0) hx hb hr rfl (fun t ht hW => ⟨⟨0, ((fun k => ([] : List Int32).getD k 0), (fun k => ([] : List (Nat → Int32)).getD k (fun _ => 0)), (fun k => ([] : List (Nat → Int64)).getD k (fun _ => 0))), rfl, ⟨(show (0 : Int) ≤ (0 : Int32).toInt ∧ (0 : Int32).toInt ≤ 1 by decide +kernel), (show ((0 : Int32).toInt = 0 ∨ ((0 : Int) ≤ p1.toInt + (0) ∧ (p1.toInt : Int) ≤ v1_0.toInt + (-1))) by exact Or.inl (by decide +kernel)), trivial⟩, by rw [ht]; exact hP9, va_K.moved hW.alike hK9, hD9⟩, hS.F ht⟩) hS.2.2 dX9_isInput_25
  have oc_6 := zk_eq rfl (by decide +kernel : (0 : Int32).toInt = 0) c_6
  refine lv_iconst (v := 1) hx hb dX9_isInput_20 (by decide +kernel) ?_
  refine lv_goto (tgt := 25) hx hb dX9_isInput_21 (by decide) ?_
  have hP9 := hP.sub (ws' := [(h0, .inr (9, [.int v0_0, .ref r0_1, .ref r0_2, .ref r0_3, .ref r0_4, .int v0_5, .ref r0_6, .ref r0_7, .ref r0_8])), (r0_6, .inr (4, [.int v1_0, .int v1_1, .ref r1_2, .ref r1_3, .ref r1_4, .ref r1_5, .ref r1_6, .ref r1_7, .ref r1_8, .ref r1_9])), (r1_3, .inl (k2, 14, .inl f2))]) [0, 1, 2] rfl
  have hD9 := hD.sub (ws' := [(h0, .inr (9, [.int v0_0, .ref r0_1, .ref r0_2, .ref r0_3, .ref r0_4, .int v0_5, .ref r0_6, .ref r0_7, .ref r0_8])), (r0_6, .inr (4, [.int v1_0, .int v1_1, .ref r1_2, .ref r1_3, .ref r1_4, .ref r1_5, .ref r1_6, .ref r1_7, .ref r1_8, .ref r1_9])), (r1_3, .inl (k2, 14, .inl f2))]) [0, 1, 2] (by decide) rfl
  have hK9 := hK.sub (tys' := [(k2, .int)]) [0] rfl
  rw [← hQ]
  exact W.zret (v := 1) hx hb hr rfl (fun t ht hW => ⟨⟨1, ((fun k => ([] : List Int32).getD k 0), (fun k => ([] : List (Nat → Int32)).getD k (fun _ => 0)), (fun k => ([] : List (Nat → Int64)).getD k (fun _ => 0))), rfl, ⟨(show (0 : Int) ≤ (1 : Int32).toInt ∧ (1 : Int32).toInt ≤ 1 by decide +kernel), (show ((1 : Int32).toInt = 0 ∨ ((0 : Int) ≤ p1.toInt + (0) ∧ (p1.toInt : Int) ≤ v1_0.toInt + (-1))) by right; omega), trivial⟩, by rw [ht]; exact hP9, va_K.moved hW.alike hK9, hD9⟩, hS.F ht⟩) hS.2.2 dX9_isInput_25
set_option maxHeartbeats 4000000 in
set_option maxRecDepth 100000 in
theorem zs_X9_isFree (l : Launch) (dC : Nat → ClassId) (dI : Nat → Nat → Nat) (h0 : Nat) (p1 : Int32) (v0_0 : Int32) (r0_1 : Nat) (r0_2 : Nat) (r0_3 : Nat) (r0_4 : Nat) (v0_5 : Int32) (r0_6 : Nat) (r0_7 : Nat) (r0_8 : Nat) (v1_0 : Int32) (v1_1 : Int32) (r1_2 : Nat) (r1_3 : Nat) (r1_4 : Nat) (r1_5 : Nat) (r1_6 : Nat) (r1_7 : Nat) (r1_8 : Nat) (r1_9 : Nat) (v2_0 : Int32) (v2_1 : Int32) (v2_2 : Int32) (r2_3 : Nat) (r2_4 : Nat) (r2_5 : Nat) (k3 : Nat) (f3 : Nat → Int32) (k4 : Nat) (f4 : Nat → Int32) (hq_v0_0 : (0 : Int) ≤ v0_0.toInt ∧ v0_0.toInt ≤ 4) (hq_v1_0 : (0 : Int) ≤ v1_0.toInt ∧ v1_0.toInt ≤ 14) (hq_v2_0 : (0 : Int) ≤ v2_0.toInt ∧ v2_0.toInt ≤ 14) (hq_v2_2 : (0 : Int) ≤ v2_2.toInt ∧ v2_2.toInt ≤ 1) (hf3 : zr f3 (-1) 13) (sz : Nat) : Met l yX9_isFree wsX9_isFree ({ frames := 1, cells := 0, slots := 0, locals := 21 }) (va_Pc [.ref h0, .int p1] (fun U => U.heap.size = sz ∧ va_P (dC, dI) vwCl [(h0, .inr (9, [.int v0_0, .ref r0_1, .ref r0_2, .ref r0_3, .ref r0_4, .int v0_5, .ref r0_6, .ref r0_7, .ref r0_8])), (r0_6, .inr (4, [.int v1_0, .int v1_1, .ref r1_2, .ref r1_3, .ref r1_4, .ref r1_5, .ref r1_6, .ref r1_7, .ref r1_8, .ref r1_9])), (r0_7, .inr (2, [.int v2_0, .int v2_1, .int v2_2, .ref r2_3, .ref r2_4, .ref r2_5])), (r2_3, .inl (k3, 14, .inl f3)), (r2_4, .inl (k4, 14, .inl f4))] U.heap ∧ va_K (dC, dI) vwCl [(k3, .int), (k4, .int)] U ∧ va_D (fun _ => True) [(h0, .inr (9, [.int v0_0, .ref r0_1, .ref r0_2, .ref r0_3, .ref r0_4, .int v0_5, .ref r0_6, .ref r0_7, .ref r0_8])), (r0_6, .inr (4, [.int v1_0, .int v1_1, .ref r1_2, .ref r1_3, .ref r1_4, .ref r1_5, .ref r1_6, .ref r1_7, .ref r1_8, .ref r1_9])), (r0_7, .inr (2, [.int v2_0, .int v2_1, .int v2_2, .ref r2_3, .ref r2_4, .ref r2_5])), (r2_3, .inl (k3, 14, .inl f3)), (r2_4, .inl (k4, 14, .inl f4))])) (va_Qi (fun (r : Int32) (u : zV) => ((0 : Int) ≤ r.toInt ∧ r.toInt ≤ 1) ∧ (r.toInt = 0 ∨ ((0 : Int) ≤ p1.toInt + (0) ∧ (0 : Int) ≤ v2_0.toInt + (-1) ∧ (p1.toInt : Int) ≤ v1_0.toInt + (-1))) ∧ True) (fun u t => va_P (dC, dI) vwCl [(h0, .inr (9, [.int v0_0, .ref r0_1, .ref r0_2, .ref r0_3, .ref r0_4, .int v0_5, .ref r0_6, .ref r0_7, .ref r0_8])), (r0_6, .inr (4, [.int v1_0, .int v1_1, .ref r1_2, .ref r1_3, .ref r1_4, .ref r1_5, .ref r1_6, .ref r1_7, .ref r1_8, .ref r1_9])), (r0_7, .inr (2, [.int v2_0, .int v2_1, .int v2_2, .ref r2_3, .ref r2_4, .ref r2_5])), (r2_3, .inl (k3, 14, .inl f3)), (r2_4, .inl (k4, 14, .inl f4))] t.heap ∧ va_K (dC, dI) vwCl [(k3, .int), (k4, .int)] t ∧ va_D (va_A [(h0, .inr (9, [.int v0_0, .ref r0_1, .ref r0_2, .ref r0_3, .ref r0_4, .int v0_5, .ref r0_6, .ref r0_7, .ref r0_8])), (r0_6, .inr (4, [.int v1_0, .int v1_1, .ref r1_2, .ref r1_3, .ref r1_4, .ref r1_5, .ref r1_6, .ref r1_7, .ref r1_8, .ref r1_9])), (r0_7, .inr (2, [.int v2_0, .int v2_1, .int v2_2, .ref r2_3, .ref r2_4, .ref r2_5])), (r2_3, .inl (k3, 14, .inl f3)), (r2_4, .inl (k4, 14, .inl f4))] sz) [(h0, .inr (9, [.int v0_0, .ref r0_1, .ref r0_2, .ref r0_3, .ref r0_4, .int v0_5, .ref r0_6, .ref r0_7, .ref r0_8])), (r0_6, .inr (4, [.int v1_0, .int v1_1, .ref r1_2, .ref r1_3, .ref r1_4, .ref r1_5, .ref r1_6, .ref r1_7, .ref r1_8, .ref r1_9])), (r0_7, .inr (2, [.int v2_0, .int v2_1, .int v2_2, .ref r2_3, .ref r2_4, .ref r2_5])), (r2_3, .inl (k3, 14, .inl f3)), (r2_4, .inl (k4, 14, .inl f4))]) (va_A [(h0, .inr (9, [.int v0_0, .ref r0_1, .ref r0_2, .ref r0_3, .ref r0_4, .int v0_5, .ref r0_6, .ref r0_7, .ref r0_8])), (r0_6, .inr (4, [.int v1_0, .int v1_1, .ref r1_2, .ref r1_3, .ref r1_4, .ref r1_5, .ref r1_6, .ref r1_7, .ref r1_8, .ref r1_9])), (r0_7, .inr (2, [.int v2_0, .int v2_1, .int v2_2, .ref r2_3, .ref r2_4, .ref r2_5])), (r2_3, .inl (k3, 14, .inl f3)), (r2_4, .inl (k4, 14, .inl f4))] sz)) 0 0 (va_A [(h0, .inr (9, [.int v0_0, .ref r0_1, .ref r0_2, .ref r0_3, .ref r0_4, .int v0_5, .ref r0_6, .ref r0_7, .ref r0_8])), (r0_6, .inr (4, [.int v1_0, .int v1_1, .ref r1_2, .ref r1_3, .ref r1_4, .ref r1_5, .ref r1_6, .ref r1_7, .ref r1_8, .ref r1_9])), (r0_7, .inr (2, [.int v2_0, .int v2_1, .int v2_2, .ref r2_3, .ref r2_4, .ref r2_5])), (r2_3, .inl (k3, 14, .inl f3)), (r2_4, .inl (k4, 14, .inl f4))] sz) := by
  refine Met.ofW (cc := cX9_isFree) (maxL := 2) (ret := (some .boolean)) (by decide +kernel) rfl ?_
  intro p e s m args below meth c s₁ B hml hv
  obtain ⟨rfl, hsz, hP, hK, hD0⟩ := hv
  have hx := B.exec
  have hb := B.bytes
  have hr := B.returns
  have hts := atoms_spec (ws := wsX9_isFree) B.pre
  have hown : s.vm.findClass RX9 = some m.cls := findClass_of_methodNamed B.named
  have hlocks := B.notSynchronized
  subst hsz
  have hD := hD0.self (sz := s.heap.size)
  generalize hAe : va_A [(h0, .inr (9, [.int v0_0, .ref r0_1, .ref r0_2, .ref r0_3, .ref r0_4, .int v0_5, .ref r0_6, .ref r0_7, .ref r0_8])), (r0_6, .inr (4, [.int v1_0, .int v1_1, .ref r1_2, .ref r1_3, .ref r1_4, .ref r1_5, .ref r1_6, .ref r1_7, .ref r1_8, .ref r1_9])), (r0_7, .inr (2, [.int v2_0, .int v2_1, .int v2_2, .ref r2_3, .ref r2_4, .ref r2_5])), (r2_3, .inl (k3, 14, .inl f3)), (r2_4, .inl (k4, 14, .inl f4))] s.heap.size = A at hD ⊢
  have hA : ∀ q : Nat, s.heap.size ≤ q → A q := fun q h => by rw [← hAe]; exact Or.inr h
  have hS : va_S A s.heap s.heap [] := va_S.rf
  have hP : va_P (dC, dI) vwCl [(h0, .inr (9, [.int v0_0, .ref r0_1, .ref r0_2, .ref r0_3, .ref r0_4, .int v0_5, .ref r0_6, .ref r0_7, .ref r0_8])), (r0_6, .inr (4, [.int v1_0, .int v1_1, .ref r1_2, .ref r1_3, .ref r1_4, .ref r1_5, .ref r1_6, .ref r1_7, .ref r1_8, .ref r1_9])), (r0_7, .inr (2, [.int v2_0, .int v2_1, .int v2_2, .ref r2_3, .ref r2_4, .ref r2_5])), (r2_3, .inl (k3, 14, .inl f3)), (r2_4, .inl (k4, 14, .inl f4))] s.heap := hP
  have hl := lv_entry ([.ref h0, .int p1]) (n := 2) (Nat.le_of_ble_eq_true rfl)
  rw [lg_entry_eq]
  generalize (lg_sl ([.ref h0, .int p1]) ++ List.replicate (2 - (lg_sl ([.ref h0, .int p1])).length) Slot.unset).toArray = ls at hl ⊢
  have hl : lv_has ls 2 [(0, .ref h0), (1, .int p1)] := hl
  generalize hQ : MQ below (va_Qi (fun (r : Int32) (u : zV) => ((0 : Int) ≤ r.toInt ∧ r.toInt ≤ 1) ∧ (r.toInt = 0 ∨ ((0 : Int) ≤ p1.toInt + (0) ∧ (0 : Int) ≤ v2_0.toInt + (-1) ∧ (p1.toInt : Int) ≤ v1_0.toInt + (-1))) ∧ True) (fun u t => va_P (dC, dI) vwCl [(h0, .inr (9, [.int v0_0, .ref r0_1, .ref r0_2, .ref r0_3, .ref r0_4, .int v0_5, .ref r0_6, .ref r0_7, .ref r0_8])), (r0_6, .inr (4, [.int v1_0, .int v1_1, .ref r1_2, .ref r1_3, .ref r1_4, .ref r1_5, .ref r1_6, .ref r1_7, .ref r1_8, .ref r1_9])), (r0_7, .inr (2, [.int v2_0, .int v2_1, .int v2_2, .ref r2_3, .ref r2_4, .ref r2_5])), (r2_3, .inl (k3, 14, .inl f3)), (r2_4, .inl (k4, 14, .inl f4))] t.heap ∧ va_K (dC, dI) vwCl [(k3, .int), (k4, .int)] t ∧ va_D A [(h0, .inr (9, [.int v0_0, .ref r0_1, .ref r0_2, .ref r0_3, .ref r0_4, .int v0_5, .ref r0_6, .ref r0_7, .ref r0_8])), (r0_6, .inr (4, [.int v1_0, .int v1_1, .ref r1_2, .ref r1_3, .ref r1_4, .ref r1_5, .ref r1_6, .ref r1_7, .ref r1_8, .ref r1_9])), (r0_7, .inr (2, [.int v2_0, .int v2_1, .int v2_2, .ref r2_3, .ref r2_4, .ref r2_5])), (r2_3, .inl (k3, 14, .inl f3)), (r2_4, .inl (k4, 14, .inl f4))]) A) ([.ref h0, .int p1] : List Value).toArray s 0 0 A = Q
  refine lv_aload_n hx hb dX9_isFree_0 rfl (lv_at hl 0 rfl) ?_
  refine lv_iload_n hx hb dX9_isFree_1 rfl (lv_at hl 1 rfl) ?_
  have hPc := hP.sub (ws' := [(h0, .inr (9, [.int v0_0, .ref r0_1, .ref r0_2, .ref r0_3, .ref r0_4, .int v0_5, .ref r0_6, .ref r0_7, .ref r0_8])), (r0_6, .inr (4, [.int v1_0, .int v1_1, .ref r1_2, .ref r1_3, .ref r1_4, .ref r1_5, .ref r1_6, .ref r1_7, .ref r1_8, .ref r1_9]))]) [0, 1] rfl
  have hDc := hD.sub (ws' := [(h0, .inr (9, [.int v0_0, .ref r0_1, .ref r0_2, .ref r0_3, .ref r0_4, .int v0_5, .ref r0_6, .ref r0_7, .ref r0_8])), (r0_6, .inr (4, [.int v1_0, .int v1_1, .ref r1_2, .ref r1_3, .ref r1_4, .ref r1_5, .ref r1_6, .ref r1_7, .ref r1_8, .ref r1_9]))]) [0, 1] (by decide) rfl
  have hKc := hK.sub (tys' := []) [] rfl
  have hFc := va_free (wc := [(h0, .inr (9, [.int v0_0, .ref r0_1, .ref r0_2, .ref r0_3, .ref r0_4, .int v0_5, .ref r0_6, .ref r0_7, .ref r0_8])), (r0_6, .inr (4, [.int v1_0, .int v1_1, .ref r1_2, .ref r1_3, .ref r1_4, .ref r1_5, .ref r1_6, .ref r1_7, .ref r1_8, .ref r1_9]))]) hD hS hA [0, 1] rfl
  refine va_calli (va_runV (As := [.int p1]) (rest := []) ⟨hx, hb, hml, hown, hts⟩ (zs_X9_hasNumber l dC dI h0 p1 v0_0 r0_1 r0_2 r0_3 r0_4 v0_5 r0_6 r0_7 r0_8 v1_0 v1_1 r1_2 r1_3 r1_4 r1_5 r1_6 r1_7 r1_8 r1_9 (by omega) (by omega) s.heap.size) (cwV 1 hts gX9_isFree_X9_hasNumber rfl rfl rfl (by decide +kernel) ⟨Nat.le_of_ble_eq_true rfl, Nat.le_of_ble_eq_true rfl⟩) ⟨fun a U g mk q => by obtain ⟨q0, q1, qP, qK, qD⟩ := q; exact ⟨q0, q1, qP, va_K.moved (u := U) (U := U.calling g mk a) (Vm.Alike.refl U.vm) qK, qD⟩, va_recv hKc hPc (ci := 9) (q0 := 0) rfl rfl, fun U hU hW => ⟨rfl, by rw [hU], by rw [hU]; exact hPc, va_K.moved hW.alike hKc, hDc.weaken (fun _ _ _ _ => trivial)⟩⟩ rfl rfl hl.1 rfl (lv_room (Nat.le_of_ble_eq_true rfl)) dX9_isFree_2 ⟨Nat.le_of_ble_eq_true rfl, Nat.le_of_ble_eq_true rfl⟩) hS (fun q _ h => hFc q h) hFc (fun r_1 u_2 t H1 locs ht hvm hw_3 hB hz1 hk1 hS => ?_)
  obtain ⟨hP1, hK1, hD1⟩ := hB
  rw [ht] at hP1
  have hK1 := va_K.moved hvm.symm hK1
  obtain ⟨hP, hD⟩ := va_join (wr := [(r0_7, .inr (2, [.int v2_0, .int v2_1, .int v2_2, .ref r2_3, .ref r2_4, .ref r2_5])), (r2_3, .inl (k3, 14, .inl f3)), (r2_4, .inl (k4, 14, .inl f4))]) (w1 := [(h0, .inr (9, [.int v0_0, .ref r0_1, .ref r0_2, .ref r0_3, .ref r0_4, .int v0_5, .ref r0_6, .ref r0_7, .ref r0_8])), (r0_6, .inr (4, [.int v1_0, .int v1_1, .ref r1_2, .ref r1_3, .ref r1_4, .ref r1_5, .ref r1_6, .ref r1_7, .ref r1_8, .ref r1_9]))]) hP hD [0, 1] [2, 3, 4] rfl rfl (by decide) (by decide) hk1 hFc hP1 hD1
  have hK := hK
  generalize H1 = H at hP hS ⊢
  have hP := hP.sub (ws' := [(h0, .inr (9, [.int v0_0, .ref r0_1, .ref r0_2, .ref r0_3, .ref r0_4, .int v0_5, .ref r0_6, .ref r0_7, .ref r0_8])), (r0_6, .inr (4, [.int v1_0, .int v1_1, .ref r1_2, .ref r1_3, .ref r1_4, .ref r1_5, .ref r1_6, .ref r1_7, .ref r1_8, .ref r1_9])), (r0_7, .inr (2, [.int v2_0, .int v2_1, .int v2_2, .ref r2_3, .ref r2_4, .ref r2_5])), (r2_3, .inl (k3, 14, .inl f3)), (r2_4, .inl (k4, 14, .inl f4))]) [3, 4, 0, 1, 2] rfl
  have hD := hD.sub (ws' := [(h0, .inr (9, [.int v0_0, .ref r0_1, .ref r0_2, .ref r0_3, .ref r0_4, .int v0_5, .ref r0_6, .ref r0_7, .ref r0_8])), (r0_6, .inr (4, [.int v1_0, .int v1_1, .ref r1_2, .ref r1_3, .ref r1_4, .ref r1_5, .ref r1_6, .ref r1_7, .ref r1_8, .ref r1_9])), (r0_7, .inr (2, [.int v2_0, .int v2_1, .int v2_2, .ref r2_3, .ref r2_4, .ref r2_5])), (r2_3, .inl (k3, 14, .inl f3)), (r2_4, .inl (k4, 14, .inl f4))]) [3, 4, 0, 1, 2] (by decide) rfl
  have hP : va_P (dC, dI) vwCl [(h0, .inr (9, [.int v0_0, .ref r0_1, .ref r0_2, .ref r0_3, .ref r0_4, .int v0_5, .ref r0_6, .ref r0_7, .ref r0_8])), (r0_6, .inr (4, [.int v1_0, .int v1_1, .ref r1_2, .ref r1_3, .ref r1_4, .ref r1_5, .ref r1_6, .ref r1_7, .ref r1_8, .ref r1_9])), (r0_7, .inr (2, [.int v2_0, .int v2_1, .int v2_2, .ref r2_3, .ref r2_4, .ref r2_5])), (r2_3, .inl (k3, 14, .inl f3)), (r2_4, .inl (k4, 14, .inl f4))] H := hP
  have hD : va_D A [(h0, .inr (9, [.int v0_0, .ref r0_1, .ref r0_2, .ref r0_3, .ref r0_4, .int v0_5, .ref r0_6, .ref r0_7, .ref r0_8])), (r0_6, .inr (4, [.int v1_0, .int v1_1, .ref r1_2, .ref r1_3, .ref r1_4, .ref r1_5, .ref r1_6, .ref r1_7, .ref r1_8, .ref r1_9])), (r0_7, .inr (2, [.int v2_0, .int v2_1, .int v2_2, .ref r2_3, .ref r2_4, .ref r2_5])), (r2_3, .inl (k3, 14, .inl f3)), (r2_4, .inl (k4, 14, .inl f4))] := hD
  obtain ⟨hr_1, hir_1, -⟩ := hw_3
  refine lv_if_eq (tgt := 31) hx hb dX9_isFree_5 (by decide) (fun c_4 => ?_) (fun c_4 => ?_)
  · have oc_4 := zk_eq rfl (by decide +kernel : (0 : Int32).toInt = 0) c_4
    refine lv_iconst (v := 0) hx hb dX9_isFree_31 (by decide +kernel) ?_
    have hP9 := hP.sub (ws' := [(h0, .inr (9, [.int v0_0, .ref r0_1, .ref r0_2, .ref r0_3, .ref r0_4, .int v0_5, .ref r0_6, .ref r0_7, .ref r0_8])), (r0_6, .inr (4, [.int v1_0, .int v1_1, .ref r1_2, .ref r1_3, .ref r1_4, .ref r1_5, .ref r1_6, .ref r1_7, .ref r1_8, .ref r1_9])), (r0_7, .inr (2, [.int v2_0, .int v2_1, .int v2_2, .ref r2_3, .ref r2_4, .ref r2_5])), (r2_3, .inl (k3, 14, .inl f3)), (r2_4, .inl (k4, 14, .inl f4))]) [0, 1, 2, 3, 4] rfl
    have hD9 := hD.sub (ws' := [(h0, .inr (9, [.int v0_0, .ref r0_1, .ref r0_2, .ref r0_3, .ref r0_4, .int v0_5, .ref r0_6, .ref r0_7, .ref r0_8])), (r0_6, .inr (4, [.int v1_0, .int v1_1, .ref r1_2, .ref r1_3, .ref r1_4, .ref r1_5, .ref r1_6, .ref r1_7, .ref r1_8, .ref r1_9])), (r0_7, .inr (2, [.int v2_0, .int v2_1, .int v2_2, .ref r2_3, .ref r2_4, .ref r2_5])), (r2_3, .inl (k3, 14, .inl f3)), (r2_4, .inl (k4, 14, .inl f4))]) [0, 1, 2, 3, 4] (by decide) rfl
    have hK9 := hK.sub (tys' := [(k3, .int), (k4, .int)]) [0, 1] rfl
    rw [← hQ]
    exact W.zret (v := 0) hx hb hr rfl (fun t ht hW => ⟨⟨0, ((fun k => ([] : List Int32).getD k 0), (fun k => ([] : List (Nat → Int32)).getD k (fun _ => 0)), (fun k => ([] : List (Nat → Int64)).getD k (fun _ => 0))), rfl, ⟨(show (0 : Int) ≤ (0 : Int32).toInt ∧ (0 : Int32).toInt ≤ 1 by decide +kernel), (show ((0 : Int32).toInt = 0 ∨ ((0 : Int) ≤ p1.toInt + (0) ∧ (0 : Int) ≤ v2_0.toInt + (-1) ∧ (p1.toInt : Int) ≤ v1_0.toInt + (-1))) by exact Or.inl (by decide +kernel)), trivial⟩, by rw [ht]; exact hP9, va_K.moved hW.alike hK9, hD9⟩, hS.F ht⟩) hS.2.2 dX9_isFree_32
  have oc_4 := zk_ne rfl (by decide +kernel : (0 : Int32).toInt = 0) c_4
  refine lv_aload_n hx hb dX9_isFree_8 rfl (lv_at hl 0 rfl) ?_
  refine va_get (D := (dC, dI)) (ci := 9) (v := .ref r0_7) (C := RX9) (T := TX9) (N := 9) hx hb hts zn_X9_isFree_X9 hown hK hP 0 rfl rfl 7 (by decide) (hts (.fieldLink RX9 34 "ShortEnough$Task" "groups" "LShortEnough$Groups;") zw_X9_isFree_40) (fun _ h9 => h9) rfl dX9_isFree_9 ?_
  refine lv_aload_n hx hb dX9_isFree_12 rfl (lv_at hl 0 rfl) ?_
  refine va_get (D := (dC, dI)) (ci := 9) (v := .ref r0_7) (C := RX9) (T := TX9) (N := 9) hx hb hts zn_X9_isFree_X9 hown hK hP 0 rfl rfl 7 (by decide) (hts (.fieldLink RX9 34 "ShortEnough$Task" "groups" "LShortEnough$Groups;") zw_X9_isFree_40) (fun _ h9 => h9) rfl dX9_isFree_13 ?_
  refine va_get (D := (dC, dI)) (ci := 2) (v := .ref r2_3) (C := RX2) (T := TX2) (N := 6) hx hb hts zn_X9_isFree_X2 hown hK hP 2 rfl rfl 3 (by decide) (hts (.fieldLink RX9 80 "ShortEnough$Groups" "of" "[I") zw_X9_isFree_42) (fun _ h9 => h9) rfl dX9_isFree_16 ?_
  refine lv_iload_n hx hb dX9_isFree_19 rfl (lv_at hl 1 rfl) ?_
  refine va_iald hx hb hK hP 3 0 rfl rfl (vp_in_iff.mpr ⟨by omega, by omega⟩) dX9_isFree_20 ?_
  refine lv_topi (fun x_5 ex_5 => ?_)
  have hx_5 := zr_at hf3 ex_5
  have hPc := hP.sub (ws' := [(r0_7, .inr (2, [.int v2_0, .int v2_1, .int v2_2, .ref r2_3, .ref r2_4, .ref r2_5])), (r2_4, .inl (k4, 14, .inl f4))]) [2, 4] rfl
  have hDc := hD.sub (ws' := [(r0_7, .inr (2, [.int v2_0, .int v2_1, .int v2_2, .ref r2_3, .ref r2_4, .ref r2_5])), (r2_4, .inl (k4, 14, .inl f4))]) [2, 4] (by decide) rfl
  have hKc := hK.sub (tys' := [(k4, .int)]) [1] rfl
  have hFc := va_free (wc := [(r0_7, .inr (2, [.int v2_0, .int v2_1, .int v2_2, .ref r2_3, .ref r2_4, .ref r2_5])), (r2_4, .inl (k4, 14, .inl f4))]) hD hS hA [2, 4] rfl
  refine va_calli (va_runV (As := [.int x_5]) (rest := []) ⟨hx, hb, hml, hown, hts⟩ (zs_X2_isFree l dC dI r0_7 x_5 v2_0 v2_1 v2_2 r2_3 r2_4 r2_5 k4 f4 (by omega) (by omega) H.size) (cwV 1 hts gX9_isFree_X2_isFree rfl rfl rfl (by decide +kernel) ⟨Nat.le_of_ble_eq_true rfl, Nat.le_of_ble_eq_true rfl⟩) ⟨fun a U g mk q => by obtain ⟨q0, q1, qP, qK, qD⟩ := q; exact ⟨q0, q1, qP, va_K.moved (u := U) (U := U.calling g mk a) (Vm.Alike.refl U.vm) qK, qD⟩, va_recv hKc hPc (ci := 2) (q0 := 0) rfl rfl, fun U hU hW => ⟨rfl, by rw [hU], by rw [hU]; exact hPc, va_K.moved hW.alike hKc, hDc.weaken (fun _ _ _ _ => trivial)⟩⟩ rfl rfl hl.1 rfl (lv_room (Nat.le_of_ble_eq_true rfl)) dX9_isFree_21 ⟨Nat.le_of_ble_eq_true rfl, Nat.le_of_ble_eq_true rfl⟩) hS (fun q _ h => hFc q h) hFc (fun r_6 u_7 t H1 locs ht hvm hw_8 hB hz1 hk1 hS => ?_)
  obtain ⟨hP1, hK1, hD1⟩ := hB
  rw [ht] at hP1
  have hK1 := va_K.moved hvm.symm hK1
  obtain ⟨hP, hD⟩ := va_join (wr := [(h0, .inr (9, [.int v0_0, .ref r0_1, .ref r0_2, .ref r0_3, .ref r0_4, .int v0_5, .ref r0_6, .ref r0_7, .ref r0_8])), (r0_6, .inr (4, [.int v1_0, .int v1_1, .ref r1_2, .ref r1_3, .ref r1_4, .ref r1_5, .ref r1_6, .ref r1_7, .ref r1_8, .ref r1_9])), (r2_3, .inl (k3, 14, .inl f3))]) (w1 := [(r0_7, .inr (2, [.int v2_0, .int v2_1, .int v2_2, .ref r2_3, .ref r2_4, .ref r2_5])), (r2_4, .inl (k4, 14, .inl f4))]) hP hD [2, 4] [0, 1, 3] rfl rfl (by decide) (by decide) hk1 hFc hP1 hD1
  have hK := hK
  generalize H1 = H at hP hS ⊢
  have hP := hP.sub (ws' := [(h0, .inr (9, [.int v0_0, .ref r0_1, .ref r0_2, .ref r0_3, .ref r0_4, .int v0_5, .ref r0_6, .ref r0_7, .ref r0_8])), (r0_6, .inr (4, [.int v1_0, .int v1_1, .ref r1_2, .ref r1_3, .ref r1_4, .ref r1_5, .ref r1_6, .ref r1_7, .ref r1_8, .ref r1_9])), (r0_7, .inr (2, [.int v2_0, .int v2_1, .int v2_2, .ref r2_3, .ref r2_4, .ref r2_5])), (r2_3, .inl (k3, 14, .inl f3)), (r2_4, .inl (k4, 14, .inl f4))]) [0, 1, 3, 2, 4] rfl
  have hD := hD.sub (ws' := [(h0, .inr (9, [.int v0_0, .ref r0_1, .ref r0_2, .ref r0_3, .ref r0_4, .int v0_5, .ref r0_6, .ref r0_7, .ref r0_8])), (r0_6, .inr (4, [.int v1_0, .int v1_1, .ref r1_2, .ref r1_3, .ref r1_4, .ref r1_5, .ref r1_6, .ref r1_7, .ref r1_8, .ref r1_9])), (r0_7, .inr (2, [.int v2_0, .int v2_1, .int v2_2, .ref r2_3, .ref r2_4, .ref r2_5])), (r2_3, .inl (k3, 14, .inl f3)), (r2_4, .inl (k4, 14, .inl f4))]) [0, 1, 3, 2, 4] (by decide) rfl
  have hP : va_P (dC, dI) vwCl [(h0, .inr (9, [.int v0_0, .ref r0_1, .ref r0_2, .ref r0_3, .ref r0_4, .int v0_5, .ref r0_6, .ref r0_7, .ref r0_8])), (r0_6, .inr (4, [.int v1_0, .int v1_1, .ref r1_2, .ref r1_3, .ref r1_4, .ref r1_5, .ref r1_6, .ref r1_7, .ref r1_8, .ref r1_9])), (r0_7, .inr (2, [.int v2_0, .int v2_1, .int v2_2, .ref r2_3, .ref r2_4, .ref r2_5])), (r2_3, .inl (k3, 14, .inl f3)), (r2_4, .inl (k4, 14, .inl f4))] H := hP
  have hD : va_D A [(h0, .inr (9, [.int v0_0, .ref r0_1, .ref r0_2, .ref r0_3, .ref r0_4, .int v0_5, .ref r0_6, .ref r0_7, .ref r0_8])), (r0_6, .inr (4, [.int v1_0, .int v1_1, .ref r1_2, .ref r1_3, .ref r1_4, .ref r1_5, .ref r1_6, .ref r1_7, .ref r1_8, .ref r1_9])), (r0_7, .inr (2, [.int v2_0, .int v2_1, .int v2_2, .ref r2_3, .ref r2_4, .ref r2_5])), (r2_3, .inl (k3, 14, .inl f3)), (r2_4, .inl (k4, 14, .inl f4))] := hD
  obtain ⟨hr_6, hir_6, -⟩ := hw_8
  refine lv_if_eq (tgt := 31) hx hb dX9_isFree_24 (by decide) (fun c_9 => ?_) (fun c_9 => ?_)
  · have oc_9 := zk_eq rfl (by decide +kernel : (0 : Int32).toInt = 0) c_9
    refine lv_iconst (v := 0) hx hb dX9_isFree_31 (by decide +kernel) ?_
    have hP9 := hP.sub (ws' := [(h0, .inr (9, [.int v0_0, .ref r0_1, .ref r0_2, .ref r0_3, .ref r0_4, .int v0_5, .ref r0_6, .ref r0_7, .ref r0_8])), (r0_6, .inr (4, [.int v1_0, .int v1_1, .ref r1_2, .ref r1_3, .ref r1_4, .ref r1_5, .ref r1_6, .ref r1_7, .ref r1_8, .ref r1_9])), (r0_7, .inr (2, [.int v2_0, .int v2_1, .int v2_2, .ref r2_3, .ref r2_4, .ref r2_5])), (r2_3, .inl (k3, 14, .inl f3)), (r2_4, .inl (k4, 14, .inl f4))]) [0, 1, 2, 3, 4] rfl
    have hD9 := hD.sub (ws' := [(h0, .inr (9, [.int v0_0, .ref r0_1, .ref r0_2, .ref r0_3, .ref r0_4, .int v0_5, .ref r0_6, .ref r0_7, .ref r0_8])), (r0_6, .inr (4, [.int v1_0, .int v1_1, .ref r1_2, .ref r1_3, .ref r1_4, .ref r1_5, .ref r1_6, .ref r1_7, .ref r1_8, .ref r1_9])), (r0_7, .inr (2, [.int v2_0, .int v2_1, .int v2_2, .ref r2_3, .ref r2_4, .ref r2_5])), (r2_3, .inl (k3, 14, .inl f3)), (r2_4, .inl (k4, 14, .inl f4))]) [0, 1, 2, 3, 4] (by decide) rfl
    have hK9 := hK.sub (tys' := [(k3, .int), (k4, .int)]) [0, 1] rfl
    rw [← hQ]
    exact W.zret (v := 0) hx hb hr rfl (fun t ht hW => ⟨⟨0, ((fun k => ([] : List Int32).getD k 0), (fun k => ([] : List (Nat → Int32)).getD k (fun _ => 0)), (fun k => ([] : List (Nat → Int64)).getD k (fun _ => 0))), rfl, ⟨(show (0 : Int) ≤ (0 : Int32).toInt ∧ (0 : Int32).toInt ≤ 1 by decide +kernel), (show ((0 : Int32).toInt = 0 ∨ ((0 : Int) ≤ p1.toInt + (0) ∧ (0 : Int) ≤ v2_0.toInt + (-1) ∧ (p1.toInt : Int) ≤ v1_0.toInt + (-1))) by exact Or.inl (by decide +kernel)), trivial⟩, by rw [ht]; exact hP9, va_K.moved hW.alike hK9, hD9⟩, hS.F ht⟩) hS.2.2 dX9_isFree_32
  have oc_9 := zk_ne rfl (by decide +kernel : (0 : Int32).toInt = 0) c_9
  refine lv_iconst (v := 1) hx hb dX9_isFree_27 (by decide +kernel) ?_
  refine lv_goto (tgt := 32) hx hb dX9_isFree_28 (by decide) ?_
  have hP9 := hP.sub (ws' := [(h0, .inr (9, [.int v0_0, .ref r0_1, .ref r0_2, .ref r0_3, .ref r0_4, .int v0_5, .ref r0_6, .ref r0_7, .ref r0_8])), (r0_6, .inr (4, [.int v1_0, .int v1_1, .ref r1_2, .ref r1_3, .ref r1_4, .ref r1_5, .ref r1_6, .ref r1_7, .ref r1_8, .ref r1_9])), (r0_7, .inr (2, [.int v2_0, .int v2_1, .int v2_2, .ref r2_3, .ref r2_4, .ref r2_5])), (r2_3, .inl (k3, 14, .inl f3)), (r2_4, .inl (k4, 14, .inl f4))]) [0, 1, 2, 3, 4] rfl
  have hD9 := hD.sub (ws' := [(h0, .inr (9, [.int v0_0, .ref r0_1, .ref r0_2, .ref r0_3, .ref r0_4, .int v0_5, .ref r0_6, .ref r0_7, .ref r0_8])), (r0_6, .inr (4, [.int v1_0, .int v1_1, .ref r1_2, .ref r1_3, .ref r1_4, .ref r1_5, .ref r1_6, .ref r1_7, .ref r1_8, .ref r1_9])), (r0_7, .inr (2, [.int v2_0, .int v2_1, .int v2_2, .ref r2_3, .ref r2_4, .ref r2_5])), (r2_3, .inl (k3, 14, .inl f3)), (r2_4, .inl (k4, 14, .inl f4))]) [0, 1, 2, 3, 4] (by decide) rfl
  have hK9 := hK.sub (tys' := [(k3, .int), (k4, .int)]) [0, 1] rfl
  rw [← hQ]
  exact W.zret (v := 1) hx hb hr rfl (fun t ht hW => ⟨⟨1, ((fun k => ([] : List Int32).getD k 0), (fun k => ([] : List (Nat → Int32)).getD k (fun _ => 0)), (fun k => ([] : List (Nat → Int64)).getD k (fun _ => 0))), rfl, ⟨(show (0 : Int) ≤ (1 : Int32).toInt ∧ (1 : Int32).toInt ≤ 1 by decide +kernel), (show ((1 : Int32).toInt = 0 ∨ ((0 : Int) ≤ p1.toInt + (0) ∧ (0 : Int) ≤ v2_0.toInt + (-1) ∧ (p1.toInt : Int) ≤ v1_0.toInt + (-1))) by right; omega), trivial⟩, by rw [ht]; exact hP9, va_K.moved hW.alike hK9, hD9⟩, hS.F ht⟩) hS.2.2 dX9_isFree_32
set_option maxHeartbeats 4000000 in
set_option maxRecDepth 100000 in
theorem zs_X9_stepOf (l : Launch) (dC : Nat → ClassId) (dI : Nat → Nat → Nat) (h0 : Nat) (p1 : Int32) (v0_0 : Int32) (r0_1 : Nat) (r0_2 : Nat) (r0_3 : Nat) (r0_4 : Nat) (v0_5 : Int32) (r0_6 : Nat) (r0_7 : Nat) (r0_8 : Nat) (k1 : Nat) (f1 : Nat → Int32) (hq_v0_0 : (0 : Int) ≤ v0_0.toInt ∧ v0_0.toInt ≤ 4) (sz : Nat) : Met l yX9_stepOf wsX9_stepOf ({ frames := 0, cells := 0, slots := 0, locals := 0 }) (va_Pc [.ref h0, .int p1] (fun U => U.heap.size = sz ∧ va_P (dC, dI) vwCl [(h0, .inr (9, [.int v0_0, .ref r0_1, .ref r0_2, .ref r0_3, .ref r0_4, .int v0_5, .ref r0_6, .ref r0_7, .ref r0_8])), (r0_2, .inl (k1, 4, .inl f1))] U.heap ∧ va_K (dC, dI) vwCl [(k1, .int)] U ∧ va_D (fun _ => True) [(h0, .inr (9, [.int v0_0, .ref r0_1, .ref r0_2, .ref r0_3, .ref r0_4, .int v0_5, .ref r0_6, .ref r0_7, .ref r0_8])), (r0_2, .inl (k1, 4, .inl f1))])) (va_Qi (fun (r : Int32) (u : zV) => True) (fun u t => va_P (dC, dI) vwCl [(h0, .inr (9, [.int v0_0, .ref r0_1, .ref r0_2, .ref r0_3, .ref r0_4, .int v0_5, .ref r0_6, .ref r0_7, .ref r0_8])), (r0_2, .inl (k1, 4, .inl f1))] t.heap ∧ va_K (dC, dI) vwCl [(k1, .int)] t ∧ va_D (va_A [(h0, .inr (9, [.int v0_0, .ref r0_1, .ref r0_2, .ref r0_3, .ref r0_4, .int v0_5, .ref r0_6, .ref r0_7, .ref r0_8])), (r0_2, .inl (k1, 4, .inl f1))] sz) [(h0, .inr (9, [.int v0_0, .ref r0_1, .ref r0_2, .ref r0_3, .ref r0_4, .int v0_5, .ref r0_6, .ref r0_7, .ref r0_8])), (r0_2, .inl (k1, 4, .inl f1))]) (va_A [(h0, .inr (9, [.int v0_0, .ref r0_1, .ref r0_2, .ref r0_3, .ref r0_4, .int v0_5, .ref r0_6, .ref r0_7, .ref r0_8])), (r0_2, .inl (k1, 4, .inl f1))] sz)) 0 0 (va_A [(h0, .inr (9, [.int v0_0, .ref r0_1, .ref r0_2, .ref r0_3, .ref r0_4, .int v0_5, .ref r0_6, .ref r0_7, .ref r0_8])), (r0_2, .inl (k1, 4, .inl f1))] sz) := by
  refine Met.ofW (cc := cX9_stepOf) (maxL := 2) (ret := (some .int)) (by decide +kernel) rfl ?_
  intro p e s m args below meth c s₁ B hml hv
  obtain ⟨rfl, hsz, hP, hK, hD0⟩ := hv
  have hx := B.exec
  have hb := B.bytes
  have hr := B.returns
  have hts := atoms_spec (ws := wsX9_stepOf) B.pre
  have hown : s.vm.findClass RX9 = some m.cls := findClass_of_methodNamed B.named
  have hlocks := B.notSynchronized
  subst hsz
  have hD := hD0.self (sz := s.heap.size)
  generalize hAe : va_A [(h0, .inr (9, [.int v0_0, .ref r0_1, .ref r0_2, .ref r0_3, .ref r0_4, .int v0_5, .ref r0_6, .ref r0_7, .ref r0_8])), (r0_2, .inl (k1, 4, .inl f1))] s.heap.size = A at hD ⊢
  have hA : ∀ q : Nat, s.heap.size ≤ q → A q := fun q h => by rw [← hAe]; exact Or.inr h
  have hS : va_S A s.heap s.heap [] := va_S.rf
  have hP : va_P (dC, dI) vwCl [(h0, .inr (9, [.int v0_0, .ref r0_1, .ref r0_2, .ref r0_3, .ref r0_4, .int v0_5, .ref r0_6, .ref r0_7, .ref r0_8])), (r0_2, .inl (k1, 4, .inl f1))] s.heap := hP
  have hl := lv_entry ([.ref h0, .int p1]) (n := 2) (Nat.le_of_ble_eq_true rfl)
  rw [lg_entry_eq]
  generalize (lg_sl ([.ref h0, .int p1]) ++ List.replicate (2 - (lg_sl ([.ref h0, .int p1])).length) Slot.unset).toArray = ls at hl ⊢
  have hl : lv_has ls 2 [(0, .ref h0), (1, .int p1)] := hl
  generalize hQ : MQ below (va_Qi (fun (r : Int32) (u : zV) => True) (fun u t => va_P (dC, dI) vwCl [(h0, .inr (9, [.int v0_0, .ref r0_1, .ref r0_2, .ref r0_3, .ref r0_4, .int v0_5, .ref r0_6, .ref r0_7, .ref r0_8])), (r0_2, .inl (k1, 4, .inl f1))] t.heap ∧ va_K (dC, dI) vwCl [(k1, .int)] t ∧ va_D A [(h0, .inr (9, [.int v0_0, .ref r0_1, .ref r0_2, .ref r0_3, .ref r0_4, .int v0_5, .ref r0_6, .ref r0_7, .ref r0_8])), (r0_2, .inl (k1, 4, .inl f1))]) A) ([.ref h0, .int p1] : List Value).toArray s 0 0 A = Q
  refine lv_iload_n hx hb dX9_stepOf_0 rfl (lv_at hl 1 rfl) ?_
  refine lv_if_lt (tgt := 21) hx hb dX9_stepOf_1 (by decide) (fun c_1 => ?_) (fun c_1 => ?_)
  · have oc_1 := zk_lt rfl (by decide +kernel : (0 : Int32).toInt = 0) c_1
    refine lv_iconst (v := 1) hx hb dX9_stepOf_21 (by decide +kernel) ?_
    have hP9 := hP.sub (ws' := [(h0, .inr (9, [.int v0_0, .ref r0_1, .ref r0_2, .ref r0_3, .ref r0_4, .int v0_5, .ref r0_6, .ref r0_7, .ref r0_8])), (r0_2, .inl (k1, 4, .inl f1))]) [0, 1] rfl
    have hD9 := hD.sub (ws' := [(h0, .inr (9, [.int v0_0, .ref r0_1, .ref r0_2, .ref r0_3, .ref r0_4, .int v0_5, .ref r0_6, .ref r0_7, .ref r0_8])), (r0_2, .inl (k1, 4, .inl f1))]) [0, 1] (by decide) rfl
    have hK9 := hK.sub (tys' := [(k1, .int)]) [0] rfl
    rw [← hQ]
    exact W.iret (v := 1) hx hb hr (fun t ht hW => ⟨⟨1, ((fun k => ([] : List Int32).getD k 0), (fun k => ([] : List (Nat → Int32)).getD k (fun _ => 0)), (fun k => ([] : List (Nat → Int64)).getD k (fun _ => 0))), rfl, trivial, by rw [ht]; exact hP9, va_K.moved hW.alike hK9, hD9⟩, hS.F ht⟩) hS.2.2 dX9_stepOf_22
  have oc_1 := zk_nlt rfl (by decide +kernel : (0 : Int32).toInt = 0) c_1
  refine lv_iload_n hx hb dX9_stepOf_4 rfl (lv_at hl 1 rfl) ?_
  refine lv_aload_n hx hb dX9_stepOf_5 rfl (lv_at hl 0 rfl) ?_
  refine va_get (D := (dC, dI)) (ci := 9) (v := .int v0_0) (C := RX9) (T := TX9) (N := 9) hx hb hts zn_X9_stepOf_X9 hown hK hP 0 rfl rfl 0 (by decide) (hts (.fieldLink RX9 45 "ShortEnough$Task" "formats" "I") zw_X9_stepOf_44) (fun _ h9 => h9) rfl dX9_stepOf_6 ?_
  refine lv_icmp_ge (tgt := 21) hx hb dX9_stepOf_9 (by decide) (fun c_2 => ?_) (fun c_2 => ?_)
  · have oc_2 := zk_le rfl rfl c_2
    refine lv_iconst (v := 1) hx hb dX9_stepOf_21 (by decide +kernel) ?_
    have hP9 := hP.sub (ws' := [(h0, .inr (9, [.int v0_0, .ref r0_1, .ref r0_2, .ref r0_3, .ref r0_4, .int v0_5, .ref r0_6, .ref r0_7, .ref r0_8])), (r0_2, .inl (k1, 4, .inl f1))]) [0, 1] rfl
    have hD9 := hD.sub (ws' := [(h0, .inr (9, [.int v0_0, .ref r0_1, .ref r0_2, .ref r0_3, .ref r0_4, .int v0_5, .ref r0_6, .ref r0_7, .ref r0_8])), (r0_2, .inl (k1, 4, .inl f1))]) [0, 1] (by decide) rfl
    have hK9 := hK.sub (tys' := [(k1, .int)]) [0] rfl
    rw [← hQ]
    exact W.iret (v := 1) hx hb hr (fun t ht hW => ⟨⟨1, ((fun k => ([] : List Int32).getD k 0), (fun k => ([] : List (Nat → Int32)).getD k (fun _ => 0)), (fun k => ([] : List (Nat → Int64)).getD k (fun _ => 0))), rfl, trivial, by rw [ht]; exact hP9, va_K.moved hW.alike hK9, hD9⟩, hS.F ht⟩) hS.2.2 dX9_stepOf_22
  have oc_2 := zk_nle rfl rfl c_2
  refine lv_aload_n hx hb dX9_stepOf_12 rfl (lv_at hl 0 rfl) ?_
  refine va_get (D := (dC, dI)) (ci := 9) (v := .ref r0_2) (C := RX9) (T := TX9) (N := 9) hx hb hts zn_X9_stepOf_X9 hown hK hP 0 rfl rfl 2 (by decide) (hts (.fieldLink RX9 15 "ShortEnough$Task" "step" "[I") zw_X9_stepOf_45) (fun _ h9 => h9) rfl dX9_stepOf_13 ?_
  refine lv_iload_n hx hb dX9_stepOf_16 rfl (lv_at hl 1 rfl) ?_
  refine va_iald hx hb hK hP 1 0 rfl rfl (vp_in_iff.mpr ⟨by omega, by omega⟩) dX9_stepOf_17 ?_
  refine lv_topi (fun x_3 ex_3 => ?_)
  refine lv_goto (tgt := 22) hx hb dX9_stepOf_18 (by decide) ?_
  have hP9 := hP.sub (ws' := [(h0, .inr (9, [.int v0_0, .ref r0_1, .ref r0_2, .ref r0_3, .ref r0_4, .int v0_5, .ref r0_6, .ref r0_7, .ref r0_8])), (r0_2, .inl (k1, 4, .inl f1))]) [0, 1] rfl
  have hD9 := hD.sub (ws' := [(h0, .inr (9, [.int v0_0, .ref r0_1, .ref r0_2, .ref r0_3, .ref r0_4, .int v0_5, .ref r0_6, .ref r0_7, .ref r0_8])), (r0_2, .inl (k1, 4, .inl f1))]) [0, 1] (by decide) rfl
  have hK9 := hK.sub (tys' := [(k1, .int)]) [0] rfl
  rw [← hQ]
  exact W.iret (v := x_3) hx hb hr (fun t ht hW => ⟨⟨x_3, ((fun k => ([] : List Int32).getD k 0), (fun k => ([] : List (Nat → Int32)).getD k (fun _ => 0)), (fun k => ([] : List (Nat → Int64)).getD k (fun _ => 0))), rfl, trivial, by rw [ht]; exact hP9, va_K.moved hW.alike hK9, hD9⟩, hS.F ht⟩) hS.2.2 dX9_stepOf_22
set_option maxHeartbeats 4000000 in
set_option maxRecDepth 100000 in
theorem zs_X9_mostOf (l : Launch) (dC : Nat → ClassId) (dI : Nat → Nat → Nat) (h0 : Nat) (p1 : Int32) (v0_0 : Int32) (r0_1 : Nat) (r0_2 : Nat) (r0_3 : Nat) (r0_4 : Nat) (v0_5 : Int32) (r0_6 : Nat) (r0_7 : Nat) (r0_8 : Nat) (k1 : Nat) (f1 : Nat → Int32) (hq_v0_0 : (0 : Int) ≤ v0_0.toInt ∧ v0_0.toInt ≤ 4) (sz : Nat) : Met l yX9_mostOf wsX9_mostOf ({ frames := 0, cells := 0, slots := 0, locals := 0 }) (va_Pc [.ref h0, .int p1] (fun U => U.heap.size = sz ∧ va_P (dC, dI) vwCl [(h0, .inr (9, [.int v0_0, .ref r0_1, .ref r0_2, .ref r0_3, .ref r0_4, .int v0_5, .ref r0_6, .ref r0_7, .ref r0_8])), (r0_3, .inl (k1, 4, .inl f1))] U.heap ∧ va_K (dC, dI) vwCl [(k1, .int)] U ∧ va_D (fun _ => True) [(h0, .inr (9, [.int v0_0, .ref r0_1, .ref r0_2, .ref r0_3, .ref r0_4, .int v0_5, .ref r0_6, .ref r0_7, .ref r0_8])), (r0_3, .inl (k1, 4, .inl f1))])) (va_Qi (fun (r : Int32) (u : zV) => True) (fun u t => va_P (dC, dI) vwCl [(h0, .inr (9, [.int v0_0, .ref r0_1, .ref r0_2, .ref r0_3, .ref r0_4, .int v0_5, .ref r0_6, .ref r0_7, .ref r0_8])), (r0_3, .inl (k1, 4, .inl f1))] t.heap ∧ va_K (dC, dI) vwCl [(k1, .int)] t ∧ va_D (va_A [(h0, .inr (9, [.int v0_0, .ref r0_1, .ref r0_2, .ref r0_3, .ref r0_4, .int v0_5, .ref r0_6, .ref r0_7, .ref r0_8])), (r0_3, .inl (k1, 4, .inl f1))] sz) [(h0, .inr (9, [.int v0_0, .ref r0_1, .ref r0_2, .ref r0_3, .ref r0_4, .int v0_5, .ref r0_6, .ref r0_7, .ref r0_8])), (r0_3, .inl (k1, 4, .inl f1))]) (va_A [(h0, .inr (9, [.int v0_0, .ref r0_1, .ref r0_2, .ref r0_3, .ref r0_4, .int v0_5, .ref r0_6, .ref r0_7, .ref r0_8])), (r0_3, .inl (k1, 4, .inl f1))] sz)) 0 0 (va_A [(h0, .inr (9, [.int v0_0, .ref r0_1, .ref r0_2, .ref r0_3, .ref r0_4, .int v0_5, .ref r0_6, .ref r0_7, .ref r0_8])), (r0_3, .inl (k1, 4, .inl f1))] sz) := by
  refine Met.ofW (cc := cX9_mostOf) (maxL := 2) (ret := (some .int)) (by decide +kernel) rfl ?_
  intro p e s m args below meth c s₁ B hml hv
  obtain ⟨rfl, hsz, hP, hK, hD0⟩ := hv
  have hx := B.exec
  have hb := B.bytes
  have hr := B.returns
  have hts := atoms_spec (ws := wsX9_mostOf) B.pre
  have hown : s.vm.findClass RX9 = some m.cls := findClass_of_methodNamed B.named
  have hlocks := B.notSynchronized
  subst hsz
  have hD := hD0.self (sz := s.heap.size)
  generalize hAe : va_A [(h0, .inr (9, [.int v0_0, .ref r0_1, .ref r0_2, .ref r0_3, .ref r0_4, .int v0_5, .ref r0_6, .ref r0_7, .ref r0_8])), (r0_3, .inl (k1, 4, .inl f1))] s.heap.size = A at hD ⊢
  have hA : ∀ q : Nat, s.heap.size ≤ q → A q := fun q h => by rw [← hAe]; exact Or.inr h
  have hS : va_S A s.heap s.heap [] := va_S.rf
  have hP : va_P (dC, dI) vwCl [(h0, .inr (9, [.int v0_0, .ref r0_1, .ref r0_2, .ref r0_3, .ref r0_4, .int v0_5, .ref r0_6, .ref r0_7, .ref r0_8])), (r0_3, .inl (k1, 4, .inl f1))] s.heap := hP
  have hl := lv_entry ([.ref h0, .int p1]) (n := 2) (Nat.le_of_ble_eq_true rfl)
  rw [lg_entry_eq]
  generalize (lg_sl ([.ref h0, .int p1]) ++ List.replicate (2 - (lg_sl ([.ref h0, .int p1])).length) Slot.unset).toArray = ls at hl ⊢
  have hl : lv_has ls 2 [(0, .ref h0), (1, .int p1)] := hl
  generalize hQ : MQ below (va_Qi (fun (r : Int32) (u : zV) => True) (fun u t => va_P (dC, dI) vwCl [(h0, .inr (9, [.int v0_0, .ref r0_1, .ref r0_2, .ref r0_3, .ref r0_4, .int v0_5, .ref r0_6, .ref r0_7, .ref r0_8])), (r0_3, .inl (k1, 4, .inl f1))] t.heap ∧ va_K (dC, dI) vwCl [(k1, .int)] t ∧ va_D A [(h0, .inr (9, [.int v0_0, .ref r0_1, .ref r0_2, .ref r0_3, .ref r0_4, .int v0_5, .ref r0_6, .ref r0_7, .ref r0_8])), (r0_3, .inl (k1, 4, .inl f1))]) A) ([.ref h0, .int p1] : List Value).toArray s 0 0 A = Q
  refine lv_iload_n hx hb dX9_mostOf_0 rfl (lv_at hl 1 rfl) ?_
  refine lv_if_lt (tgt := 21) hx hb dX9_mostOf_1 (by decide) (fun c_1 => ?_) (fun c_1 => ?_)
  · have oc_1 := zk_lt rfl (by decide +kernel : (0 : Int32).toInt = 0) c_1
    refine lv_iconst (v := 0) hx hb dX9_mostOf_21 (by decide +kernel) ?_
    have hP9 := hP.sub (ws' := [(h0, .inr (9, [.int v0_0, .ref r0_1, .ref r0_2, .ref r0_3, .ref r0_4, .int v0_5, .ref r0_6, .ref r0_7, .ref r0_8])), (r0_3, .inl (k1, 4, .inl f1))]) [0, 1] rfl
    have hD9 := hD.sub (ws' := [(h0, .inr (9, [.int v0_0, .ref r0_1, .ref r0_2, .ref r0_3, .ref r0_4, .int v0_5, .ref r0_6, .ref r0_7, .ref r0_8])), (r0_3, .inl (k1, 4, .inl f1))]) [0, 1] (by decide) rfl
    have hK9 := hK.sub (tys' := [(k1, .int)]) [0] rfl
    rw [← hQ]
    exact W.iret (v := 0) hx hb hr (fun t ht hW => ⟨⟨0, ((fun k => ([] : List Int32).getD k 0), (fun k => ([] : List (Nat → Int32)).getD k (fun _ => 0)), (fun k => ([] : List (Nat → Int64)).getD k (fun _ => 0))), rfl, trivial, by rw [ht]; exact hP9, va_K.moved hW.alike hK9, hD9⟩, hS.F ht⟩) hS.2.2 dX9_mostOf_22
  have oc_1 := zk_nlt rfl (by decide +kernel : (0 : Int32).toInt = 0) c_1
  refine lv_iload_n hx hb dX9_mostOf_4 rfl (lv_at hl 1 rfl) ?_
  refine lv_aload_n hx hb dX9_mostOf_5 rfl (lv_at hl 0 rfl) ?_
  refine va_get (D := (dC, dI)) (ci := 9) (v := .int v0_0) (C := RX9) (T := TX9) (N := 9) hx hb hts zn_X9_mostOf_X9 hown hK hP 0 rfl rfl 0 (by decide) (hts (.fieldLink RX9 45 "ShortEnough$Task" "formats" "I") zw_X9_mostOf_47) (fun _ h9 => h9) rfl dX9_mostOf_6 ?_
  refine lv_icmp_ge (tgt := 21) hx hb dX9_mostOf_9 (by decide) (fun c_2 => ?_) (fun c_2 => ?_)
  · have oc_2 := zk_le rfl rfl c_2
    refine lv_iconst (v := 0) hx hb dX9_mostOf_21 (by decide +kernel) ?_
    have hP9 := hP.sub (ws' := [(h0, .inr (9, [.int v0_0, .ref r0_1, .ref r0_2, .ref r0_3, .ref r0_4, .int v0_5, .ref r0_6, .ref r0_7, .ref r0_8])), (r0_3, .inl (k1, 4, .inl f1))]) [0, 1] rfl
    have hD9 := hD.sub (ws' := [(h0, .inr (9, [.int v0_0, .ref r0_1, .ref r0_2, .ref r0_3, .ref r0_4, .int v0_5, .ref r0_6, .ref r0_7, .ref r0_8])), (r0_3, .inl (k1, 4, .inl f1))]) [0, 1] (by decide) rfl
    have hK9 := hK.sub (tys' := [(k1, .int)]) [0] rfl
    rw [← hQ]
    exact W.iret (v := 0) hx hb hr (fun t ht hW => ⟨⟨0, ((fun k => ([] : List Int32).getD k 0), (fun k => ([] : List (Nat → Int32)).getD k (fun _ => 0)), (fun k => ([] : List (Nat → Int64)).getD k (fun _ => 0))), rfl, trivial, by rw [ht]; exact hP9, va_K.moved hW.alike hK9, hD9⟩, hS.F ht⟩) hS.2.2 dX9_mostOf_22
  have oc_2 := zk_nle rfl rfl c_2
  refine lv_aload_n hx hb dX9_mostOf_12 rfl (lv_at hl 0 rfl) ?_
  refine va_get (D := (dC, dI)) (ci := 9) (v := .ref r0_3) (C := RX9) (T := TX9) (N := 9) hx hb hts zn_X9_mostOf_X9 hown hK hP 0 rfl rfl 3 (by decide) (hts (.fieldLink RX9 18 "ShortEnough$Task" "most" "[I") zw_X9_mostOf_48) (fun _ h9 => h9) rfl dX9_mostOf_13 ?_
  refine lv_iload_n hx hb dX9_mostOf_16 rfl (lv_at hl 1 rfl) ?_
  refine va_iald hx hb hK hP 1 0 rfl rfl (vp_in_iff.mpr ⟨by omega, by omega⟩) dX9_mostOf_17 ?_
  refine lv_topi (fun x_3 ex_3 => ?_)
  refine lv_goto (tgt := 22) hx hb dX9_mostOf_18 (by decide) ?_
  have hP9 := hP.sub (ws' := [(h0, .inr (9, [.int v0_0, .ref r0_1, .ref r0_2, .ref r0_3, .ref r0_4, .int v0_5, .ref r0_6, .ref r0_7, .ref r0_8])), (r0_3, .inl (k1, 4, .inl f1))]) [0, 1] rfl
  have hD9 := hD.sub (ws' := [(h0, .inr (9, [.int v0_0, .ref r0_1, .ref r0_2, .ref r0_3, .ref r0_4, .int v0_5, .ref r0_6, .ref r0_7, .ref r0_8])), (r0_3, .inl (k1, 4, .inl f1))]) [0, 1] (by decide) rfl
  have hK9 := hK.sub (tys' := [(k1, .int)]) [0] rfl
  rw [← hQ]
  exact W.iret (v := x_3) hx hb hr (fun t ht hW => ⟨⟨x_3, ((fun k => ([] : List Int32).getD k 0), (fun k => ([] : List (Nat → Int32)).getD k (fun _ => 0)), (fun k => ([] : List (Nat → Int64)).getD k (fun _ => 0))), rfl, trivial, by rw [ht]; exact hP9, va_K.moved hW.alike hK9, hD9⟩, hS.F ht⟩) hS.2.2 dX9_mostOf_22
set_option maxHeartbeats 4000000 in
set_option maxRecDepth 100000 in
theorem zs_X9_finestFormat (l : Launch) (dC : Nat → ClassId) (dI : Nat → Nat → Nat) (h0 : Nat) (v0_0 : Int32) (r0_1 : Nat) (r0_2 : Nat) (r0_3 : Nat) (r0_4 : Nat) (v0_5 : Int32) (r0_6 : Nat) (r0_7 : Nat) (r0_8 : Nat) (k1 : Nat) (f1 : Nat → Int32) (hq_v0_0 : (0 : Int) ≤ v0_0.toInt ∧ v0_0.toInt ≤ 4) (sz : Nat) : Met l yX9_finestFormat wsX9_finestFormat ({ frames := 0, cells := 0, slots := 0, locals := 0 }) (va_Pc [.ref h0] (fun U => U.heap.size = sz ∧ va_P (dC, dI) vwCl [(h0, .inr (9, [.int v0_0, .ref r0_1, .ref r0_2, .ref r0_3, .ref r0_4, .int v0_5, .ref r0_6, .ref r0_7, .ref r0_8])), (r0_2, .inl (k1, 4, .inl f1))] U.heap ∧ va_K (dC, dI) vwCl [(k1, .int)] U ∧ va_D (fun _ => True) [(h0, .inr (9, [.int v0_0, .ref r0_1, .ref r0_2, .ref r0_3, .ref r0_4, .int v0_5, .ref r0_6, .ref r0_7, .ref r0_8])), (r0_2, .inl (k1, 4, .inl f1))])) (va_Qi (fun (r : Int32) (u : zV) => ((0 : Int) ≤ r.toInt ∧ r.toInt ≤ 3) ∧ True) (fun u t => va_P (dC, dI) vwCl [(h0, .inr (9, [.int v0_0, .ref r0_1, .ref r0_2, .ref r0_3, .ref r0_4, .int v0_5, .ref r0_6, .ref r0_7, .ref r0_8])), (r0_2, .inl (k1, 4, .inl f1))] t.heap ∧ va_K (dC, dI) vwCl [(k1, .int)] t ∧ va_D (va_A [(h0, .inr (9, [.int v0_0, .ref r0_1, .ref r0_2, .ref r0_3, .ref r0_4, .int v0_5, .ref r0_6, .ref r0_7, .ref r0_8])), (r0_2, .inl (k1, 4, .inl f1))] sz) [(h0, .inr (9, [.int v0_0, .ref r0_1, .ref r0_2, .ref r0_3, .ref r0_4, .int v0_5, .ref r0_6, .ref r0_7, .ref r0_8])), (r0_2, .inl (k1, 4, .inl f1))]) (va_A [(h0, .inr (9, [.int v0_0, .ref r0_1, .ref r0_2, .ref r0_3, .ref r0_4, .int v0_5, .ref r0_6, .ref r0_7, .ref r0_8])), (r0_2, .inl (k1, 4, .inl f1))] sz)) 0 0 (va_A [(h0, .inr (9, [.int v0_0, .ref r0_1, .ref r0_2, .ref r0_3, .ref r0_4, .int v0_5, .ref r0_6, .ref r0_7, .ref r0_8])), (r0_2, .inl (k1, 4, .inl f1))] sz) := by
  refine Met.ofW (cc := cX9_finestFormat) (maxL := 3) (ret := (some .int)) (by decide +kernel) rfl ?_
  intro p e s m args below meth c s₁ B hml hv
  obtain ⟨rfl, hsz, hP, hK, hD0⟩ := hv
  have hx := B.exec
  have hb := B.bytes
  have hr := B.returns
  have hts := atoms_spec (ws := wsX9_finestFormat) B.pre
  have hown : s.vm.findClass RX9 = some m.cls := findClass_of_methodNamed B.named
  have hlocks := B.notSynchronized
  subst hsz
  have hD := hD0.self (sz := s.heap.size)
  generalize hAe : va_A [(h0, .inr (9, [.int v0_0, .ref r0_1, .ref r0_2, .ref r0_3, .ref r0_4, .int v0_5, .ref r0_6, .ref r0_7, .ref r0_8])), (r0_2, .inl (k1, 4, .inl f1))] s.heap.size = A at hD ⊢
  have hA : ∀ q : Nat, s.heap.size ≤ q → A q := fun q h => by rw [← hAe]; exact Or.inr h
  have hS : va_S A s.heap s.heap [] := va_S.rf
  have hP : va_P (dC, dI) vwCl [(h0, .inr (9, [.int v0_0, .ref r0_1, .ref r0_2, .ref r0_3, .ref r0_4, .int v0_5, .ref r0_6, .ref r0_7, .ref r0_8])), (r0_2, .inl (k1, 4, .inl f1))] s.heap := hP
  have hl := lv_entry ([.ref h0]) (n := 3) (Nat.le_of_ble_eq_true rfl)
  rw [lg_entry_eq]
  generalize (lg_sl ([.ref h0]) ++ List.replicate (3 - (lg_sl ([.ref h0])).length) Slot.unset).toArray = ls at hl ⊢
  have hl : lv_has ls 3 [(0, .ref h0)] := hl
  generalize hQ : MQ below (va_Qi (fun (r : Int32) (u : zV) => ((0 : Int) ≤ r.toInt ∧ r.toInt ≤ 3) ∧ True) (fun u t => va_P (dC, dI) vwCl [(h0, .inr (9, [.int v0_0, .ref r0_1, .ref r0_2, .ref r0_3, .ref r0_4, .int v0_5, .ref r0_6, .ref r0_7, .ref r0_8])), (r0_2, .inl (k1, 4, .inl f1))] t.heap ∧ va_K (dC, dI) vwCl [(k1, .int)] t ∧ va_D A [(h0, .inr (9, [.int v0_0, .ref r0_1, .ref r0_2, .ref r0_3, .ref r0_4, .int v0_5, .ref r0_6, .ref r0_7, .ref r0_8])), (r0_2, .inl (k1, 4, .inl f1))]) A) ([.ref h0] : List Value).toArray s 0 0 A = Q
  refine lv_iconst (v := 0) hx hb dX9_finestFormat_0 (by decide +kernel) ?_
  refine lv_istore_n (lv' := [(1, .int 0), (0, .ref h0)]) hx hb dX9_finestFormat_1 rfl hl (by decide) rfl (fun ls hl => ?_)
  refine lv_iconst (v := 1) hx hb dX9_finestFormat_2 (by decide +kernel) ?_
  refine lv_istore_n (lv' := [(2, .int 1), (1, .int 0), (0, .ref h0)]) hx hb dX9_finestFormat_3 rfl hl (by decide) rfl (fun ls hl => ?_)
  have lp4 : ∀ (n : Nat) (y4_1 : Int32) (y4_2 : Int32) (H : Heap) (locs : List Loc) (ls : Array Slot), (0 : Int) ≤ y4_1.toInt + (0) → (0 : Int) ≤ y4_2.toInt + (-1) → (y4_1.toInt : Int) ≤ 0 + (3) → (y4_1.toInt : Int) ≤ v0_0.toInt + (0) → (y4_1.toInt : Int) ≤ y4_2.toInt + (-1) → (y4_2.toInt : Int) ≤ 0 + (4) → (y4_2.toInt : Int) ≤ v0_0.toInt + (1) → 5 - y4_2.toInt < n → va_P (dC, dI) vwCl [(h0, .inr (9, [.int v0_0, .ref r0_1, .ref r0_2, .ref r0_3, .ref r0_4, .int v0_5, .ref r0_6, .ref r0_7, .ref r0_8])), (r0_2, .inl (k1, 4, .inl f1))] H → va_D A [(h0, .inr (9, [.int v0_0, .ref r0_1, .ref r0_2, .ref r0_3, .ref r0_4, .int v0_5, .ref r0_6, .ref r0_7, .ref r0_8])), (r0_2, .inl (k1, 4, .inl f1))] → va_S A s.heap H locs → lv_has ls 3 [(2, .int y4_2), (1, .int y4_1), (0, .ref h0)] → W p l e (headSpec wsX9_finestFormat ({ frames := 0, cells := 0, slots := 0, locals := 0 })).room s m ([.ref h0] : List Value).toArray below meth c H locs 0 0 Q (F0 m 4 ls []) := by
    intro n
    induction n with
    | zero =>
      intro y4_1 y4_2 H locs ls hz4_0 hz4_1 hz4_2 hz4_3 hz4_4 hz4_5 hz4_6  hmeas hP hD hS hl
      exfalso; omega
    | succ n ih4 =>
      intro y4_1 y4_2 H locs ls hz4_0 hz4_1 hz4_2 hz4_3 hz4_4 hz4_5 hz4_6  hmeas hP hD hS hl
      refine lv_iload_n hx hb dX9_finestFormat_4 rfl (lv_at hl 0 rfl) ?_
      refine lv_aload_n hx hb dX9_finestFormat_5 rfl (lv_at hl 2 rfl) ?_
      refine va_get (D := (dC, dI)) (ci := 9) (v := .int v0_0) (C := RX9) (T := TX9) (N := 9) hx hb hts zn_X9_finestFormat_X9 hown hK hP 0 rfl rfl 0 (by decide) (hts (.fieldLink RX9 45 "ShortEnough$Task" "formats" "I") zw_X9_finestFormat_50) (fun _ h9 => h9) rfl dX9_finestFormat_6 ?_
      refine lv_icmp_ge (tgt := 35) hx hb dX9_finestFormat_9 (by decide) (fun c_1 => ?_) (fun c_1 => ?_)
      · have oc_1 := zk_le rfl rfl c_1
        refine lv_iload_n hx hb dX9_finestFormat_35 rfl (lv_at hl 1 rfl) ?_
        have hP9 := hP.sub (ws' := [(h0, .inr (9, [.int v0_0, .ref r0_1, .ref r0_2, .ref r0_3, .ref r0_4, .int v0_5, .ref r0_6, .ref r0_7, .ref r0_8])), (r0_2, .inl (k1, 4, .inl f1))]) [0, 1] rfl
        have hD9 := hD.sub (ws' := [(h0, .inr (9, [.int v0_0, .ref r0_1, .ref r0_2, .ref r0_3, .ref r0_4, .int v0_5, .ref r0_6, .ref r0_7, .ref r0_8])), (r0_2, .inl (k1, 4, .inl f1))]) [0, 1] (by decide) rfl
        have hK9 := hK.sub (tys' := [(k1, .int)]) [0] rfl
        rw [← hQ]
        exact W.iret (v := y4_1) hx hb hr (fun t ht hW => ⟨⟨y4_1, ((fun k => ([] : List Int32).getD k 0), (fun k => ([] : List (Nat → Int32)).getD k (fun _ => 0)), (fun k => ([] : List (Nat → Int64)).getD k (fun _ => 0))), rfl, ⟨(show (0 : Int) ≤ (y4_1 : Int32).toInt ∧ (y4_1 : Int32).toInt ≤ 3 by omega), trivial⟩, by rw [ht]; exact hP9, va_K.moved hW.alike hK9, hD9⟩, hS.F ht⟩) hS.2.2 dX9_finestFormat_36
      have oc_1 := zk_nle rfl rfl c_1
      refine lv_aload_n hx hb dX9_finestFormat_12 rfl (lv_at hl 2 rfl) ?_
      refine va_get (D := (dC, dI)) (ci := 9) (v := .ref r0_2) (C := RX9) (T := TX9) (N := 9) hx hb hts zn_X9_finestFormat_X9 hown hK hP 0 rfl rfl 2 (by decide) (hts (.fieldLink RX9 15 "ShortEnough$Task" "step" "[I") zw_X9_finestFormat_51) (fun _ h9 => h9) rfl dX9_finestFormat_13 ?_
      refine lv_iload_n hx hb dX9_finestFormat_16 rfl (lv_at hl 0 rfl) ?_
      refine va_iald hx hb hK hP 1 0 rfl rfl (vp_in_iff.mpr ⟨by omega, by omega⟩) dX9_finestFormat_17 ?_
      refine lv_topi (fun x_2 ex_2 => ?_)
      refine lv_aload_n hx hb dX9_finestFormat_18 rfl (lv_at hl 2 rfl) ?_
      refine va_get (D := (dC, dI)) (ci := 9) (v := .ref r0_2) (C := RX9) (T := TX9) (N := 9) hx hb hts zn_X9_finestFormat_X9 hown hK hP 0 rfl rfl 2 (by decide) (hts (.fieldLink RX9 15 "ShortEnough$Task" "step" "[I") zw_X9_finestFormat_51) (fun _ h9 => h9) rfl dX9_finestFormat_19 ?_
      refine lv_iload_n hx hb dX9_finestFormat_22 rfl (lv_at hl 1 rfl) ?_
      refine va_iald hx hb hK hP 1 0 rfl rfl (vp_in_iff.mpr ⟨by omega, by omega⟩) dX9_finestFormat_23 ?_
      refine lv_topi (fun x_3 ex_3 => ?_)
      refine lv_icmp_ge (tgt := 29) hx hb dX9_finestFormat_24 (by decide) (fun c_4 => ?_) (fun c_4 => ?_)
      · have oc_4 := zk_le rfl rfl c_4
        obtain ⟨x_5, ex_5⟩ : ∃ y : Int32, y = y4_2 + 1 := ⟨_, rfl⟩
        refine lv_iinc (v := x_5) (lv' := [(2, .int x_5), (1, .int y4_1), (0, .ref h0)]) hx hb dX9_finestFormat_29 hl (k := 0) rfl (by rw [ex_5]; rfl) (by decide) rfl (fun ls hl => ?_)
        have hx_5 := zo_add ex_5 rfl (by decide +kernel : (1 : Int32).toInt = 1) (by omega)
        refine lv_goto (tgt := 4) hx hb dX9_finestFormat_32 (by decide) ?_
        exact ih4  y4_1 x_5 H locs ls (by omega) (by omega) (by omega) (by omega) (by omega) (by omega) (by omega)  (by omega) hP hD hS (lv_sub hl [0, 1, 2] rfl)
      have oc_4 := zk_nle rfl rfl c_4
      refine lv_iload_n hx hb dX9_finestFormat_27 rfl (lv_at hl 0 rfl) ?_
      refine lv_istore_n (lv' := [(1, .int y4_2), (2, .int y4_2), (0, .ref h0)]) hx hb dX9_finestFormat_28 rfl hl (by decide) rfl (fun ls hl => ?_)
      obtain ⟨x_6, ex_6⟩ : ∃ y : Int32, y = y4_2 + 1 := ⟨_, rfl⟩
      refine lv_iinc (v := x_6) (lv' := [(2, .int x_6), (1, .int y4_2), (0, .ref h0)]) hx hb dX9_finestFormat_29 hl (k := 1) rfl (by rw [ex_6]; rfl) (by decide) rfl (fun ls hl => ?_)
      have hx_6 := zo_add ex_6 rfl (by decide +kernel : (1 : Int32).toInt = 1) (by omega)
      refine lv_goto (tgt := 4) hx hb dX9_finestFormat_32 (by decide) ?_
      exact ih4  y4_2 x_6 H locs ls (by omega) (by omega) (by omega) (by omega) (by omega) (by omega) (by omega)  (by omega) hP hD hS (lv_sub hl [0, 1, 2] rfl)
  have kk0 : (0 : Int32).toInt = 0 := (by decide +kernel)
  have kk1 : (1 : Int32).toInt = 1 := (by decide +kernel)
  exact lp4 ((5 - (1 : Int32).toInt).toNat + 1) 0 1 s.heap [] ls (by omega) (by omega) (by omega) (by omega) (by omega) (by omega) (by omega)  (by omega) hP hD hS (lv_sub hl [0, 1, 2] rfl)
set_option maxHeartbeats 4000000 in
set_option maxRecDepth 100000 in
theorem zs_X9_hasChoice (l : Launch) (dC : Nat → ClassId) (dI : Nat → Nat → Nat) (h0 : Nat) (v0_0 : Int32) (r0_1 : Nat) (r0_2 : Nat) (r0_3 : Nat) (r0_4 : Nat) (v0_5 : Int32) (r0_6 : Nat) (r0_7 : Nat) (r0_8 : Nat) (v1_0 : Int32) (v1_1 : Int32) (r1_2 : Nat) (r1_3 : Nat) (r1_4 : Nat) (r1_5 : Nat) (r1_6 : Nat) (r1_7 : Nat) (r1_8 : Nat) (r1_9 : Nat) (v2_0 : Int32) (v2_1 : Int32) (v2_2 : Int32) (r2_3 : Nat) (r2_4 : Nat) (r2_5 : Nat) (hq_v0_0 : (0 : Int) ≤ v0_0.toInt ∧ v0_0.toInt ≤ 4) (hq_v1_0 : (0 : Int) ≤ v1_0.toInt ∧ v1_0.toInt ≤ 14) (hq_v2_0 : (0 : Int) ≤ v2_0.toInt ∧ v2_0.toInt ≤ 14) (hq_v2_2 : (0 : Int) ≤ v2_2.toInt ∧ v2_2.toInt ≤ 1) (sz : Nat) : Met l yX9_hasChoice wsX9_hasChoice ({ frames := 0, cells := 0, slots := 0, locals := 0 }) (va_Pc [.ref h0] (fun U => U.heap.size = sz ∧ va_P (dC, dI) vwCl [(h0, .inr (9, [.int v0_0, .ref r0_1, .ref r0_2, .ref r0_3, .ref r0_4, .int v0_5, .ref r0_6, .ref r0_7, .ref r0_8])), (r0_6, .inr (4, [.int v1_0, .int v1_1, .ref r1_2, .ref r1_3, .ref r1_4, .ref r1_5, .ref r1_6, .ref r1_7, .ref r1_8, .ref r1_9])), (r0_7, .inr (2, [.int v2_0, .int v2_1, .int v2_2, .ref r2_3, .ref r2_4, .ref r2_5]))] U.heap ∧ va_K (dC, dI) vwCl [] U ∧ va_D (fun _ => True) [(h0, .inr (9, [.int v0_0, .ref r0_1, .ref r0_2, .ref r0_3, .ref r0_4, .int v0_5, .ref r0_6, .ref r0_7, .ref r0_8])), (r0_6, .inr (4, [.int v1_0, .int v1_1, .ref r1_2, .ref r1_3, .ref r1_4, .ref r1_5, .ref r1_6, .ref r1_7, .ref r1_8, .ref r1_9])), (r0_7, .inr (2, [.int v2_0, .int v2_1, .int v2_2, .ref r2_3, .ref r2_4, .ref r2_5]))])) (va_Qi (fun (r : Int32) (u : zV) => ((0 : Int) ≤ r.toInt ∧ r.toInt ≤ 1) ∧ (r.toInt = 0 ∨ ((v2_2.toInt : Int) ≤ 0 + (0))) ∧ True) (fun u t => va_P (dC, dI) vwCl [(h0, .inr (9, [.int v0_0, .ref r0_1, .ref r0_2, .ref r0_3, .ref r0_4, .int v0_5, .ref r0_6, .ref r0_7, .ref r0_8])), (r0_6, .inr (4, [.int v1_0, .int v1_1, .ref r1_2, .ref r1_3, .ref r1_4, .ref r1_5, .ref r1_6, .ref r1_7, .ref r1_8, .ref r1_9])), (r0_7, .inr (2, [.int v2_0, .int v2_1, .int v2_2, .ref r2_3, .ref r2_4, .ref r2_5]))] t.heap ∧ va_K (dC, dI) vwCl [] t ∧ va_D (va_A [(h0, .inr (9, [.int v0_0, .ref r0_1, .ref r0_2, .ref r0_3, .ref r0_4, .int v0_5, .ref r0_6, .ref r0_7, .ref r0_8])), (r0_6, .inr (4, [.int v1_0, .int v1_1, .ref r1_2, .ref r1_3, .ref r1_4, .ref r1_5, .ref r1_6, .ref r1_7, .ref r1_8, .ref r1_9])), (r0_7, .inr (2, [.int v2_0, .int v2_1, .int v2_2, .ref r2_3, .ref r2_4, .ref r2_5]))] sz) [(h0, .inr (9, [.int v0_0, .ref r0_1, .ref r0_2, .ref r0_3, .ref r0_4, .int v0_5, .ref r0_6, .ref r0_7, .ref r0_8])), (r0_6, .inr (4, [.int v1_0, .int v1_1, .ref r1_2, .ref r1_3, .ref r1_4, .ref r1_5, .ref r1_6, .ref r1_7, .ref r1_8, .ref r1_9])), (r0_7, .inr (2, [.int v2_0, .int v2_1, .int v2_2, .ref r2_3, .ref r2_4, .ref r2_5]))]) (va_A [(h0, .inr (9, [.int v0_0, .ref r0_1, .ref r0_2, .ref r0_3, .ref r0_4, .int v0_5, .ref r0_6, .ref r0_7, .ref r0_8])), (r0_6, .inr (4, [.int v1_0, .int v1_1, .ref r1_2, .ref r1_3, .ref r1_4, .ref r1_5, .ref r1_6, .ref r1_7, .ref r1_8, .ref r1_9])), (r0_7, .inr (2, [.int v2_0, .int v2_1, .int v2_2, .ref r2_3, .ref r2_4, .ref r2_5]))] sz)) 0 0 (va_A [(h0, .inr (9, [.int v0_0, .ref r0_1, .ref r0_2, .ref r0_3, .ref r0_4, .int v0_5, .ref r0_6, .ref r0_7, .ref r0_8])), (r0_6, .inr (4, [.int v1_0, .int v1_1, .ref r1_2, .ref r1_3, .ref r1_4, .ref r1_5, .ref r1_6, .ref r1_7, .ref r1_8, .ref r1_9])), (r0_7, .inr (2, [.int v2_0, .int v2_1, .int v2_2, .ref r2_3, .ref r2_4, .ref r2_5]))] sz) := by
  refine Met.ofW (cc := cX9_hasChoice) (maxL := 1) (ret := (some .boolean)) (by decide +kernel) rfl ?_
  intro p e s m args below meth c s₁ B hml hv
  obtain ⟨rfl, hsz, hP, hK, hD0⟩ := hv
  have hx := B.exec
  have hb := B.bytes
  have hr := B.returns
  have hts := atoms_spec (ws := wsX9_hasChoice) B.pre
  have hown : s.vm.findClass RX9 = some m.cls := findClass_of_methodNamed B.named
  have hlocks := B.notSynchronized
  subst hsz
  have hD := hD0.self (sz := s.heap.size)
  generalize hAe : va_A [(h0, .inr (9, [.int v0_0, .ref r0_1, .ref r0_2, .ref r0_3, .ref r0_4, .int v0_5, .ref r0_6, .ref r0_7, .ref r0_8])), (r0_6, .inr (4, [.int v1_0, .int v1_1, .ref r1_2, .ref r1_3, .ref r1_4, .ref r1_5, .ref r1_6, .ref r1_7, .ref r1_8, .ref r1_9])), (r0_7, .inr (2, [.int v2_0, .int v2_1, .int v2_2, .ref r2_3, .ref r2_4, .ref r2_5]))] s.heap.size = A at hD ⊢
  have hA : ∀ q : Nat, s.heap.size ≤ q → A q := fun q h => by rw [← hAe]; exact Or.inr h
  have hS : va_S A s.heap s.heap [] := va_S.rf
  have hP : va_P (dC, dI) vwCl [(h0, .inr (9, [.int v0_0, .ref r0_1, .ref r0_2, .ref r0_3, .ref r0_4, .int v0_5, .ref r0_6, .ref r0_7, .ref r0_8])), (r0_6, .inr (4, [.int v1_0, .int v1_1, .ref r1_2, .ref r1_3, .ref r1_4, .ref r1_5, .ref r1_6, .ref r1_7, .ref r1_8, .ref r1_9])), (r0_7, .inr (2, [.int v2_0, .int v2_1, .int v2_2, .ref r2_3, .ref r2_4, .ref r2_5]))] s.heap := hP
  have hl := lv_entry ([.ref h0]) (n := 1) (Nat.le_of_ble_eq_true rfl)
  rw [lg_entry_eq]
  generalize (lg_sl ([.ref h0]) ++ List.replicate (1 - (lg_sl ([.ref h0])).length) Slot.unset).toArray = ls at hl ⊢
  have hl : lv_has ls 1 [(0, .ref h0)] := hl
  generalize hQ : MQ below (va_Qi (fun (r : Int32) (u : zV) => ((0 : Int) ≤ r.toInt ∧ r.toInt ≤ 1) ∧ (r.toInt = 0 ∨ ((v2_2.toInt : Int) ≤ 0 + (0))) ∧ True) (fun u t => va_P (dC, dI) vwCl [(h0, .inr (9, [.int v0_0, .ref r0_1, .ref r0_2, .ref r0_3, .ref r0_4, .int v0_5, .ref r0_6, .ref r0_7, .ref r0_8])), (r0_6, .inr (4, [.int v1_0, .int v1_1, .ref r1_2, .ref r1_3, .ref r1_4, .ref r1_5, .ref r1_6, .ref r1_7, .ref r1_8, .ref r1_9])), (r0_7, .inr (2, [.int v2_0, .int v2_1, .int v2_2, .ref r2_3, .ref r2_4, .ref r2_5]))] t.heap ∧ va_K (dC, dI) vwCl [] t ∧ va_D A [(h0, .inr (9, [.int v0_0, .ref r0_1, .ref r0_2, .ref r0_3, .ref r0_4, .int v0_5, .ref r0_6, .ref r0_7, .ref r0_8])), (r0_6, .inr (4, [.int v1_0, .int v1_1, .ref r1_2, .ref r1_3, .ref r1_4, .ref r1_5, .ref r1_6, .ref r1_7, .ref r1_8, .ref r1_9])), (r0_7, .inr (2, [.int v2_0, .int v2_1, .int v2_2, .ref r2_3, .ref r2_4, .ref r2_5]))]) A) ([.ref h0] : List Value).toArray s 0 0 A = Q
  refine lv_aload_n hx hb dX9_hasChoice_0 rfl (lv_at hl 0 rfl) ?_
  refine va_get (D := (dC, dI)) (ci := 9) (v := .ref r0_6) (C := RX9) (T := TX9) (N := 9) hx hb hts zn_X9_hasChoice_X9 hown hK hP 0 rfl rfl 6 (by decide) (hts (.fieldLink RX9 27 "ShortEnough$Task" "numbers" "LShortEnough$Numbers;") zw_X9_hasChoice_53) (fun _ h9 => h9) rfl dX9_hasChoice_1 ?_
  refine va_get (D := (dC, dI)) (ci := 4) (v := .int v1_0) (C := RX4) (T := TX4) (N := 10) hx hb hts zn_X9_hasChoice_X4 hown hK hP 1 rfl rfl 0 (by decide) (hts (.fieldLink RX9 52 "ShortEnough$Numbers" "count" "I") zw_X9_hasChoice_55) (fun _ h9 => h9) rfl dX9_hasChoice_4 ?_
  refine lv_if_le (tgt := 24) hx hb dX9_hasChoice_7 (by decide) (fun c_1 => ?_) (fun c_1 => ?_)
  · have oc_1 := zk_le rfl (by decide +kernel : (0 : Int32).toInt = 0) c_1
    refine lv_iconst (v := 0) hx hb dX9_hasChoice_24 (by decide +kernel) ?_
    have hP9 := hP.sub (ws' := [(h0, .inr (9, [.int v0_0, .ref r0_1, .ref r0_2, .ref r0_3, .ref r0_4, .int v0_5, .ref r0_6, .ref r0_7, .ref r0_8])), (r0_6, .inr (4, [.int v1_0, .int v1_1, .ref r1_2, .ref r1_3, .ref r1_4, .ref r1_5, .ref r1_6, .ref r1_7, .ref r1_8, .ref r1_9])), (r0_7, .inr (2, [.int v2_0, .int v2_1, .int v2_2, .ref r2_3, .ref r2_4, .ref r2_5]))]) [0, 1, 2] rfl
    have hD9 := hD.sub (ws' := [(h0, .inr (9, [.int v0_0, .ref r0_1, .ref r0_2, .ref r0_3, .ref r0_4, .int v0_5, .ref r0_6, .ref r0_7, .ref r0_8])), (r0_6, .inr (4, [.int v1_0, .int v1_1, .ref r1_2, .ref r1_3, .ref r1_4, .ref r1_5, .ref r1_6, .ref r1_7, .ref r1_8, .ref r1_9])), (r0_7, .inr (2, [.int v2_0, .int v2_1, .int v2_2, .ref r2_3, .ref r2_4, .ref r2_5]))]) [0, 1, 2] (by decide) rfl
    have hK9 := hK.sub (tys' := []) [] rfl
    rw [← hQ]
    exact W.zret (v := 0) hx hb hr rfl (fun t ht hW => ⟨⟨0, ((fun k => ([] : List Int32).getD k 0), (fun k => ([] : List (Nat → Int32)).getD k (fun _ => 0)), (fun k => ([] : List (Nat → Int64)).getD k (fun _ => 0))), rfl, ⟨(show (0 : Int) ≤ (0 : Int32).toInt ∧ (0 : Int32).toInt ≤ 1 by decide +kernel), (show ((0 : Int32).toInt = 0 ∨ ((v2_2.toInt : Int) ≤ 0 + (0))) by exact Or.inl (by decide +kernel)), trivial⟩, by rw [ht]; exact hP9, va_K.moved hW.alike hK9, hD9⟩, hS.F ht⟩) hS.2.2 dX9_hasChoice_25
  have oc_1 := zk_nle rfl (by decide +kernel : (0 : Int32).toInt = 0) c_1
  refine lv_aload_n hx hb dX9_hasChoice_10 rfl (lv_at hl 0 rfl) ?_
  refine va_get (D := (dC, dI)) (ci := 9) (v := .ref r0_7) (C := RX9) (T := TX9) (N := 9) hx hb hts zn_X9_hasChoice_X9 hown hK hP 0 rfl rfl 7 (by decide) (hts (.fieldLink RX9 34 "ShortEnough$Task" "groups" "LShortEnough$Groups;") zw_X9_hasChoice_56) (fun _ h9 => h9) rfl dX9_hasChoice_11 ?_
  refine va_get (D := (dC, dI)) (ci := 2) (v := .int v2_2) (C := RX2) (T := TX2) (N := 6) hx hb hts zn_X9_hasChoice_X2 hown hK hP 2 rfl rfl 2 (by decide) (hts (.fieldLink RX9 66 "ShortEnough$Groups" "clash" "Z") zw_X9_hasChoice_58) (fun _ h9 => h9) rfl dX9_hasChoice_14 ?_
  refine lv_if_ne (tgt := 24) hx hb dX9_hasChoice_17 (by decide) (fun c_2 => ?_) (fun c_2 => ?_)
  · have oc_2 := zk_ne rfl (by decide +kernel : (0 : Int32).toInt = 0) c_2
    refine lv_iconst (v := 0) hx hb dX9_hasChoice_24 (by decide +kernel) ?_
    have hP9 := hP.sub (ws' := [(h0, .inr (9, [.int v0_0, .ref r0_1, .ref r0_2, .ref r0_3, .ref r0_4, .int v0_5, .ref r0_6, .ref r0_7, .ref r0_8])), (r0_6, .inr (4, [.int v1_0, .int v1_1, .ref r1_2, .ref r1_3, .ref r1_4, .ref r1_5, .ref r1_6, .ref r1_7, .ref r1_8, .ref r1_9])), (r0_7, .inr (2, [.int v2_0, .int v2_1, .int v2_2, .ref r2_3, .ref r2_4, .ref r2_5]))]) [0, 1, 2] rfl
    have hD9 := hD.sub (ws' := [(h0, .inr (9, [.int v0_0, .ref r0_1, .ref r0_2, .ref r0_3, .ref r0_4, .int v0_5, .ref r0_6, .ref r0_7, .ref r0_8])), (r0_6, .inr (4, [.int v1_0, .int v1_1, .ref r1_2, .ref r1_3, .ref r1_4, .ref r1_5, .ref r1_6, .ref r1_7, .ref r1_8, .ref r1_9])), (r0_7, .inr (2, [.int v2_0, .int v2_1, .int v2_2, .ref r2_3, .ref r2_4, .ref r2_5]))]) [0, 1, 2] (by decide) rfl
    have hK9 := hK.sub (tys' := []) [] rfl
    rw [← hQ]
    exact W.zret (v := 0) hx hb hr rfl (fun t ht hW => ⟨⟨0, ((fun k => ([] : List Int32).getD k 0), (fun k => ([] : List (Nat → Int32)).getD k (fun _ => 0)), (fun k => ([] : List (Nat → Int64)).getD k (fun _ => 0))), rfl, ⟨(show (0 : Int) ≤ (0 : Int32).toInt ∧ (0 : Int32).toInt ≤ 1 by decide +kernel), (show ((0 : Int32).toInt = 0 ∨ ((v2_2.toInt : Int) ≤ 0 + (0))) by exact Or.inl (by decide +kernel)), trivial⟩, by rw [ht]; exact hP9, va_K.moved hW.alike hK9, hD9⟩, hS.F ht⟩) hS.2.2 dX9_hasChoice_25
  have oc_2 := zk_eq rfl (by decide +kernel : (0 : Int32).toInt = 0) c_2
  refine lv_iconst (v := 1) hx hb dX9_hasChoice_20 (by decide +kernel) ?_
  refine lv_goto (tgt := 25) hx hb dX9_hasChoice_21 (by decide) ?_
  have hP9 := hP.sub (ws' := [(h0, .inr (9, [.int v0_0, .ref r0_1, .ref r0_2, .ref r0_3, .ref r0_4, .int v0_5, .ref r0_6, .ref r0_7, .ref r0_8])), (r0_6, .inr (4, [.int v1_0, .int v1_1, .ref r1_2, .ref r1_3, .ref r1_4, .ref r1_5, .ref r1_6, .ref r1_7, .ref r1_8, .ref r1_9])), (r0_7, .inr (2, [.int v2_0, .int v2_1, .int v2_2, .ref r2_3, .ref r2_4, .ref r2_5]))]) [0, 1, 2] rfl
  have hD9 := hD.sub (ws' := [(h0, .inr (9, [.int v0_0, .ref r0_1, .ref r0_2, .ref r0_3, .ref r0_4, .int v0_5, .ref r0_6, .ref r0_7, .ref r0_8])), (r0_6, .inr (4, [.int v1_0, .int v1_1, .ref r1_2, .ref r1_3, .ref r1_4, .ref r1_5, .ref r1_6, .ref r1_7, .ref r1_8, .ref r1_9])), (r0_7, .inr (2, [.int v2_0, .int v2_1, .int v2_2, .ref r2_3, .ref r2_4, .ref r2_5]))]) [0, 1, 2] (by decide) rfl
  have hK9 := hK.sub (tys' := []) [] rfl
  rw [← hQ]
  exact W.zret (v := 1) hx hb hr rfl (fun t ht hW => ⟨⟨1, ((fun k => ([] : List Int32).getD k 0), (fun k => ([] : List (Nat → Int32)).getD k (fun _ => 0)), (fun k => ([] : List (Nat → Int64)).getD k (fun _ => 0))), rfl, ⟨(show (0 : Int) ≤ (1 : Int32).toInt ∧ (1 : Int32).toInt ≤ 1 by decide +kernel), (show ((1 : Int32).toInt = 0 ∨ ((v2_2.toInt : Int) ≤ 0 + (0))) by right; omega), trivial⟩, by rw [ht]; exact hP9, va_K.moved hW.alike hK9, hD9⟩, hS.F ht⟩) hS.2.2 dX9_hasChoice_25
set_option maxHeartbeats 4000000 in
set_option maxRecDepth 100000 in
theorem zs_X2_leaderOf (l : Launch) (dC : Nat → ClassId) (dI : Nat → Nat → Nat) (h0 : Nat) (p1 : Int32) (v0_0 : Int32) (v0_1 : Int32) (v0_2 : Int32) (r0_3 : Nat) (r0_4 : Nat) (r0_5 : Nat) (k1 : Nat) (f1 : Nat → Int32) (hq_v0_0 : (0 : Int) ≤ v0_0.toInt ∧ v0_0.toInt ≤ 14) (hq_v0_2 : (0 : Int) ≤ v0_2.toInt ∧ v0_2.toInt ≤ 1) (sz : Nat) : Met l yX2_leaderOf wsX2_leaderOf ({ frames := 0, cells := 0, slots := 0, locals := 0 }) (va_Pc [.ref h0, .int p1] (fun U => U.heap.size = sz ∧ va_P (dC, dI) vwCl [(h0, .inr (2, [.int v0_0, .int v0_1, .int v0_2, .ref r0_3, .ref r0_4, .ref r0_5])), (r0_5, .inl (k1, 14, .inl f1))] U.heap ∧ va_K (dC, dI) vwCl [(k1, .int)] U ∧ va_D (fun _ => True) [(h0, .inr (2, [.int v0_0, .int v0_1, .int v0_2, .ref r0_3, .ref r0_4, .ref r0_5])), (r0_5, .inl (k1, 14, .inl f1))])) (va_Qi (fun (r : Int32) (u : zV) => (r.toInt = -1 ∨ ((0 : Int) ≤ p1.toInt + (0) ∧ (p1.toInt : Int) ≤ v0_0.toInt + (-1))) ∧ True) (fun u t => va_P (dC, dI) vwCl [(h0, .inr (2, [.int v0_0, .int v0_1, .int v0_2, .ref r0_3, .ref r0_4, .ref r0_5])), (r0_5, .inl (k1, 14, .inl f1))] t.heap ∧ va_K (dC, dI) vwCl [(k1, .int)] t ∧ va_D (va_A [(h0, .inr (2, [.int v0_0, .int v0_1, .int v0_2, .ref r0_3, .ref r0_4, .ref r0_5])), (r0_5, .inl (k1, 14, .inl f1))] sz) [(h0, .inr (2, [.int v0_0, .int v0_1, .int v0_2, .ref r0_3, .ref r0_4, .ref r0_5])), (r0_5, .inl (k1, 14, .inl f1))]) (va_A [(h0, .inr (2, [.int v0_0, .int v0_1, .int v0_2, .ref r0_3, .ref r0_4, .ref r0_5])), (r0_5, .inl (k1, 14, .inl f1))] sz)) 0 0 (va_A [(h0, .inr (2, [.int v0_0, .int v0_1, .int v0_2, .ref r0_3, .ref r0_4, .ref r0_5])), (r0_5, .inl (k1, 14, .inl f1))] sz) := by
  refine Met.ofW (cc := cX2_leaderOf) (maxL := 2) (ret := (some .int)) (by decide +kernel) rfl ?_
  intro p e s m args below meth c s₁ B hml hv
  obtain ⟨rfl, hsz, hP, hK, hD0⟩ := hv
  have hx := B.exec
  have hb := B.bytes
  have hr := B.returns
  have hts := atoms_spec (ws := wsX2_leaderOf) B.pre
  have hown : s.vm.findClass RX2 = some m.cls := findClass_of_methodNamed B.named
  have hlocks := B.notSynchronized
  subst hsz
  have hD := hD0.self (sz := s.heap.size)
  generalize hAe : va_A [(h0, .inr (2, [.int v0_0, .int v0_1, .int v0_2, .ref r0_3, .ref r0_4, .ref r0_5])), (r0_5, .inl (k1, 14, .inl f1))] s.heap.size = A at hD ⊢
  have hA : ∀ q : Nat, s.heap.size ≤ q → A q := fun q h => by rw [← hAe]; exact Or.inr h
  have hS : va_S A s.heap s.heap [] := va_S.rf
  have hP : va_P (dC, dI) vwCl [(h0, .inr (2, [.int v0_0, .int v0_1, .int v0_2, .ref r0_3, .ref r0_4, .ref r0_5])), (r0_5, .inl (k1, 14, .inl f1))] s.heap := hP
  have hl := lv_entry ([.ref h0, .int p1]) (n := 2) (Nat.le_of_ble_eq_true rfl)
  rw [lg_entry_eq]
  generalize (lg_sl ([.ref h0, .int p1]) ++ List.replicate (2 - (lg_sl ([.ref h0, .int p1])).length) Slot.unset).toArray = ls at hl ⊢
  have hl : lv_has ls 2 [(0, .ref h0), (1, .int p1)] := hl
  generalize hQ : MQ below (va_Qi (fun (r : Int32) (u : zV) => (r.toInt = -1 ∨ ((0 : Int) ≤ p1.toInt + (0) ∧ (p1.toInt : Int) ≤ v0_0.toInt + (-1))) ∧ True) (fun u t => va_P (dC, dI) vwCl [(h0, .inr (2, [.int v0_0, .int v0_1, .int v0_2, .ref r0_3, .ref r0_4, .ref r0_5])), (r0_5, .inl (k1, 14, .inl f1))] t.heap ∧ va_K (dC, dI) vwCl [(k1, .int)] t ∧ va_D A [(h0, .inr (2, [.int v0_0, .int v0_1, .int v0_2, .ref r0_3, .ref r0_4, .ref r0_5])), (r0_5, .inl (k1, 14, .inl f1))]) A) ([.ref h0, .int p1] : List Value).toArray s 0 0 A = Q
  refine lv_iload_n hx hb dX2_leaderOf_0 rfl (lv_at hl 1 rfl) ?_
  refine lv_if_lt (tgt := 21) hx hb dX2_leaderOf_1 (by decide) (fun c_1 => ?_) (fun c_1 => ?_)
  · have oc_1 := zk_lt rfl (by decide +kernel : (0 : Int32).toInt = 0) c_1
    refine lv_iconst (v := (-1)) hx hb dX2_leaderOf_21 (by decide +kernel) ?_
    have hP9 := hP.sub (ws' := [(h0, .inr (2, [.int v0_0, .int v0_1, .int v0_2, .ref r0_3, .ref r0_4, .ref r0_5])), (r0_5, .inl (k1, 14, .inl f1))]) [0, 1] rfl
    have hD9 := hD.sub (ws' := [(h0, .inr (2, [.int v0_0, .int v0_1, .int v0_2, .ref r0_3, .ref r0_4, .ref r0_5])), (r0_5, .inl (k1, 14, .inl f1))]) [0, 1] (by decide) rfl
    have hK9 := hK.sub (tys' := [(k1, .int)]) [0] rfl
    rw [← hQ]
    exact W.iret (v := (-1)) hx hb hr (fun t ht hW => ⟨⟨(-1), ((fun k => ([] : List Int32).getD k 0), (fun k => ([] : List (Nat → Int32)).getD k (fun _ => 0)), (fun k => ([] : List (Nat → Int64)).getD k (fun _ => 0))), rfl, ⟨(show (((-1) : Int32).toInt = -1 ∨ ((0 : Int) ≤ p1.toInt + (0) ∧ (p1.toInt : Int) ≤ v0_0.toInt + (-1))) by exact Or.inl (by decide +kernel)), trivial⟩, by rw [ht]; exact hP9, va_K.moved hW.alike hK9, hD9⟩, hS.F ht⟩) hS.2.2 dX2_leaderOf_22
  have oc_1 := zk_nlt rfl (by decide +kernel : (0 : Int32).toInt = 0) c_1
  refine lv_iload_n hx hb dX2_leaderOf_4 rfl (lv_at hl 1 rfl) ?_
  refine lv_aload_n hx hb dX2_leaderOf_5 rfl (lv_at hl 0 rfl) ?_
  refine va_get (D := (dC, dI)) (ci := 2) (v := .int v0_0) (C := RX2) (T := TX2) (N := 6) hx hb hts zn_X2_leaderOf_X2 hown hK hP 0 rfl rfl 0 (by decide) (hts (.fieldLink RX2 21 "ShortEnough$Groups" "count" "I") zw_X2_leaderOf_60) (fun _ h9 => h9) rfl dX2_leaderOf_6 ?_
  refine lv_icmp_ge (tgt := 21) hx hb dX2_leaderOf_9 (by decide) (fun c_2 => ?_) (fun c_2 => ?_)
  · have oc_2 := zk_le rfl rfl c_2
    refine lv_iconst (v := (-1)) hx hb dX2_leaderOf_21 (by decide +kernel) ?_
    have hP9 := hP.sub (ws' := [(h0, .inr (2, [.int v0_0, .int v0_1, .int v0_2, .ref r0_3, .ref r0_4, .ref r0_5])), (r0_5, .inl (k1, 14, .inl f1))]) [0, 1] rfl
    have hD9 := hD.sub (ws' := [(h0, .inr (2, [.int v0_0, .int v0_1, .int v0_2, .ref r0_3, .ref r0_4, .ref r0_5])), (r0_5, .inl (k1, 14, .inl f1))]) [0, 1] (by decide) rfl
    have hK9 := hK.sub (tys' := [(k1, .int)]) [0] rfl
    rw [← hQ]
    exact W.iret (v := (-1)) hx hb hr (fun t ht hW => ⟨⟨(-1), ((fun k => ([] : List Int32).getD k 0), (fun k => ([] : List (Nat → Int32)).getD k (fun _ => 0)), (fun k => ([] : List (Nat → Int64)).getD k (fun _ => 0))), rfl, ⟨(show (((-1) : Int32).toInt = -1 ∨ ((0 : Int) ≤ p1.toInt + (0) ∧ (p1.toInt : Int) ≤ v0_0.toInt + (-1))) by exact Or.inl (by decide +kernel)), trivial⟩, by rw [ht]; exact hP9, va_K.moved hW.alike hK9, hD9⟩, hS.F ht⟩) hS.2.2 dX2_leaderOf_22
  have oc_2 := zk_nle rfl rfl c_2
  refine lv_aload_n hx hb dX2_leaderOf_12 rfl (lv_at hl 0 rfl) ?_
  refine va_get (D := (dC, dI)) (ci := 2) (v := .ref r0_5) (C := RX2) (T := TX2) (N := 6) hx hb hts zn_X2_leaderOf_X2 hown hK hP 0 rfl rfl 5 (by decide) (hts (.fieldLink RX2 18 "ShortEnough$Groups" "leader" "[I") zw_X2_leaderOf_61) (fun _ h9 => h9) rfl dX2_leaderOf_13 ?_
  refine lv_iload_n hx hb dX2_leaderOf_16 rfl (lv_at hl 1 rfl) ?_
  refine va_iald hx hb hK hP 1 0 rfl rfl (vp_in_iff.mpr ⟨by omega, by omega⟩) dX2_leaderOf_17 ?_
  refine lv_topi (fun x_3 ex_3 => ?_)
  refine lv_goto (tgt := 22) hx hb dX2_leaderOf_18 (by decide) ?_
  have hP9 := hP.sub (ws' := [(h0, .inr (2, [.int v0_0, .int v0_1, .int v0_2, .ref r0_3, .ref r0_4, .ref r0_5])), (r0_5, .inl (k1, 14, .inl f1))]) [0, 1] rfl
  have hD9 := hD.sub (ws' := [(h0, .inr (2, [.int v0_0, .int v0_1, .int v0_2, .ref r0_3, .ref r0_4, .ref r0_5])), (r0_5, .inl (k1, 14, .inl f1))]) [0, 1] (by decide) rfl
  have hK9 := hK.sub (tys' := [(k1, .int)]) [0] rfl
  rw [← hQ]
  exact W.iret (v := x_3) hx hb hr (fun t ht hW => ⟨⟨x_3, ((fun k => ([] : List Int32).getD k 0), (fun k => ([] : List (Nat → Int32)).getD k (fun _ => 0)), (fun k => ([] : List (Nat → Int64)).getD k (fun _ => 0))), rfl, ⟨(show ((x_3 : Int32).toInt = -1 ∨ ((0 : Int) ≤ p1.toInt + (0) ∧ (p1.toInt : Int) ≤ v0_0.toInt + (-1))) by omega), trivial⟩, by rw [ht]; exact hP9, va_K.moved hW.alike hK9, hD9⟩, hS.F ht⟩) hS.2.2 dX2_leaderOf_22
set_option maxHeartbeats 4000000 in
set_option maxRecDepth 100000 in
theorem zs_X2_fillFree (l : Launch) (dC : Nat → ClassId) (dI : Nat → Nat → Nat) (h0 : Nat) (h1 : Nat) (p2 : Int32) (v0_0 : Int32) (v0_1 : Int32) (v0_2 : Int32) (r0_3 : Nat) (r0_4 : Nat) (r0_5 : Nat) (k1 : Nat) (f1 : Nat → Int32) (k2 : Nat) (f2 : Nat → Int32) (hq_v0_0 : (0 : Int) ≤ v0_0.toInt ∧ v0_0.toInt ≤ 14) (hq_v0_2 : (0 : Int) ≤ v0_2.toInt ∧ v0_2.toInt ≤ 1) (sz : Nat) : Met l yX2_fillFree wsX2_fillFree ({ frames := 0, cells := 0, slots := 0, locals := 0 }) (va_Pc [.ref h0, .ref h1, .int p2] (fun U => U.heap.size = sz ∧ va_P (dC, dI) vwCl [(h0, .inr (2, [.int v0_0, .int v0_1, .int v0_2, .ref r0_3, .ref r0_4, .ref r0_5])), (h1, .inl (k1, 14, .inl f1)), (r0_4, .inl (k2, 14, .inl f2))] U.heap ∧ va_K (dC, dI) vwCl [(k1, .int), (k2, .int)] U ∧ va_D (fun _ => True) [(h0, .inr (2, [.int v0_0, .int v0_1, .int v0_2, .ref r0_3, .ref r0_4, .ref r0_5])), (h1, .inl (k1, 14, .inl f1)), (r0_4, .inl (k2, 14, .inl f2))])) (va_Qv (fun (u : zV) => True) (fun u t => va_P (dC, dI) vwCl [(h0, .inr (2, [.int v0_0, .int v0_1, .int v0_2, .ref r0_3, .ref r0_4, .ref r0_5])), (h1, .inl (k1, 14, .inl (u.2.1 0))), (r0_4, .inl (k2, 14, .inl f2))] t.heap ∧ va_K (dC, dI) vwCl [(k1, .int), (k2, .int)] t ∧ va_D (va_A [(h0, .inr (2, [.int v0_0, .int v0_1, .int v0_2, .ref r0_3, .ref r0_4, .ref r0_5])), (h1, .inl (k1, 14, .inl f1)), (r0_4, .inl (k2, 14, .inl f2))] sz) [(h0, .inr (2, [.int v0_0, .int v0_1, .int v0_2, .ref r0_3, .ref r0_4, .ref r0_5])), (h1, .inl (k1, 14, .inl (u.2.1 0))), (r0_4, .inl (k2, 14, .inl f2))]) (va_A [(h0, .inr (2, [.int v0_0, .int v0_1, .int v0_2, .ref r0_3, .ref r0_4, .ref r0_5])), (h1, .inl (k1, 14, .inl f1)), (r0_4, .inl (k2, 14, .inl f2))] sz)) 0 0 (va_A [(h0, .inr (2, [.int v0_0, .int v0_1, .int v0_2, .ref r0_3, .ref r0_4, .ref r0_5])), (h1, .inl (k1, 14, .inl f1)), (r0_4, .inl (k2, 14, .inl f2))] sz) := by
  refine Met.ofW (cc := cX2_fillFree) (maxL := 4) (ret := none) (by decide +kernel) rfl ?_
  intro p e s m args below meth c s₁ B hml hv
  obtain ⟨rfl, hsz, hP, hK, hD0⟩ := hv
  have hx := B.exec
  have hb := B.bytes
  have hr := B.returns
  have hts := atoms_spec (ws := wsX2_fillFree) B.pre
  have hown : s.vm.findClass RX2 = some m.cls := findClass_of_methodNamed B.named
  have hlocks := B.notSynchronized
  subst hsz
  have hD := hD0.self (sz := s.heap.size)
  generalize hAe : va_A [(h0, .inr (2, [.int v0_0, .int v0_1, .int v0_2, .ref r0_3, .ref r0_4, .ref r0_5])), (h1, .inl (k1, 14, .inl f1)), (r0_4, .inl (k2, 14, .inl f2))] s.heap.size = A at hD ⊢
  have hA : ∀ q : Nat, s.heap.size ≤ q → A q := fun q h => by rw [← hAe]; exact Or.inr h
  have hS : va_S A s.heap s.heap [] := va_S.rf
  have hP : va_P (dC, dI) vwCl [(h0, .inr (2, [.int v0_0, .int v0_1, .int v0_2, .ref r0_3, .ref r0_4, .ref r0_5])), (h1, .inl (k1, 14, .inl f1)), (r0_4, .inl (k2, 14, .inl f2))] s.heap := hP
  have hl := lv_entry ([.ref h0, .ref h1, .int p2]) (n := 4) (Nat.le_of_ble_eq_true rfl)
  rw [lg_entry_eq]
  generalize (lg_sl ([.ref h0, .ref h1, .int p2]) ++ List.replicate (4 - (lg_sl ([.ref h0, .ref h1, .int p2])).length) Slot.unset).toArray = ls at hl ⊢
  have hl : lv_has ls 4 [(0, .ref h0), (1, .ref h1), (2, .int p2)] := hl
  generalize hQ : MQ below (va_Qv (fun (u : zV) => True) (fun u t => va_P (dC, dI) vwCl [(h0, .inr (2, [.int v0_0, .int v0_1, .int v0_2, .ref r0_3, .ref r0_4, .ref r0_5])), (h1, .inl (k1, 14, .inl (u.2.1 0))), (r0_4, .inl (k2, 14, .inl f2))] t.heap ∧ va_K (dC, dI) vwCl [(k1, .int), (k2, .int)] t ∧ va_D A [(h0, .inr (2, [.int v0_0, .int v0_1, .int v0_2, .ref r0_3, .ref r0_4, .ref r0_5])), (h1, .inl (k1, 14, .inl (u.2.1 0))), (r0_4, .inl (k2, 14, .inl f2))]) A) ([.ref h0, .ref h1, .int p2] : List Value).toArray s 0 0 A = Q
  refine lv_iconst (v := 0) hx hb dX2_fillFree_0 (by decide +kernel) ?_
  refine lv_istore_n (lv' := [(3, .int 0), (0, .ref h0), (1, .ref h1), (2, .int p2)]) hx hb dX2_fillFree_1 rfl hl (by decide) rfl (fun ls hl => ?_)
  have lp2 : ∀ (n : Nat) (g2_h1 : Nat → Int32) (y2_3 : Int32) (H : Heap) (locs : List Loc) (ls : Array Slot), (0 : Int) ≤ y2_3.toInt + (0) → (y2_3.toInt : Int) ≤ 0 + (14) → (y2_3.toInt : Int) ≤ v0_0.toInt + (0) → 15 - y2_3.toInt < n → va_P (dC, dI) vwCl [(h0, .inr (2, [.int v0_0, .int v0_1, .int v0_2, .ref r0_3, .ref r0_4, .ref r0_5])), (h1, .inl (k1, 14, .inl g2_h1)), (r0_4, .inl (k2, 14, .inl f2))] H → va_D A [(h0, .inr (2, [.int v0_0, .int v0_1, .int v0_2, .ref r0_3, .ref r0_4, .ref r0_5])), (h1, .inl (k1, 14, .inl g2_h1)), (r0_4, .inl (k2, 14, .inl f2))] → va_S A s.heap H locs → lv_has ls 4 [(3, .int y2_3), (0, .ref h0), (1, .ref h1), (2, .int p2)] → W p l e (headSpec wsX2_fillFree ({ frames := 0, cells := 0, slots := 0, locals := 0 })).room s m ([.ref h0, .ref h1, .int p2] : List Value).toArray below meth c H locs 0 0 Q (F0 m 2 ls []) := by
    intro n
    induction n with
    | zero =>
      intro g2_h1 y2_3 H locs ls hz2_0 hz2_1 hz2_2  hmeas hP hD hS hl
      exfalso; omega
    | succ n ih2 =>
      intro g2_h1 y2_3 H locs ls hz2_0 hz2_1 hz2_2  hmeas hP hD hS hl
      refine lv_iload_n hx hb dX2_fillFree_2 rfl (lv_at hl 0 rfl) ?_
      refine lv_aload_n hx hb dX2_fillFree_3 rfl (lv_at hl 1 rfl) ?_
      refine va_get (D := (dC, dI)) (ci := 2) (v := .int v0_0) (C := RX2) (T := TX2) (N := 6) hx hb hts zn_X2_fillFree_X2 hown hK hP 0 rfl rfl 0 (by decide) (hts (.fieldLink RX2 21 "ShortEnough$Groups" "count" "I") zw_X2_fillFree_63) (fun _ h9 => h9) rfl dX2_fillFree_4 ?_
      refine lv_icmp_ge (tgt := 45) hx hb dX2_fillFree_7 (by decide) (fun c_1 => ?_) (fun c_1 => ?_)
      · have oc_1 := zk_le rfl rfl c_1
        have hP9 := hP.sub (ws' := [(h0, .inr (2, [.int v0_0, .int v0_1, .int v0_2, .ref r0_3, .ref r0_4, .ref r0_5])), (h1, .inl (k1, 14, .inl g2_h1)), (r0_4, .inl (k2, 14, .inl f2))]) [0, 1, 2] rfl
        have hD9 := hD.sub (ws' := [(h0, .inr (2, [.int v0_0, .int v0_1, .int v0_2, .ref r0_3, .ref r0_4, .ref r0_5])), (h1, .inl (k1, 14, .inl g2_h1)), (r0_4, .inl (k2, 14, .inl f2))]) [0, 1, 2] (by decide) rfl
        have hK9 := hK.sub (tys' := [(k1, .int), (k2, .int)]) [0, 1] rfl
        rw [← hQ]
        exact W.vret hx hb hr (fun t ht hW => ⟨⟨((fun k => ([] : List Int32).getD k 0), (fun k => ([g2_h1] : List (Nat → Int32)).getD k (fun _ => 0)), (fun k => ([] : List (Nat → Int64)).getD k (fun _ => 0))), rfl, trivial, by rw [ht]; exact hP9, va_K.moved hW.alike hK9, hD9⟩, hS.F ht⟩) hS.2.2 dX2_fillFree_45
      have oc_1 := zk_nle rfl rfl c_1
      refine lv_iload_n hx hb dX2_fillFree_10 rfl (lv_at hl 0 rfl) ?_
      refine lv_aload_n hx hb dX2_fillFree_11 rfl (lv_at hl 2 rfl) ?_
      refine va_alen (v := 14) hx hb hK hP 1 0 rfl rfl (show Int32.ofNat 14 = 14 by decide +kernel) dX2_fillFree_12 ?_
      refine lv_icmp_ge (tgt := 45) hx hb dX2_fillFree_13 (by decide) (fun c_2 => by exfalso; have oc_2 := zk_le (by decide +kernel : (14 : Int32).toInt = 14) rfl c_2; omega) (fun c_2 => ?_)
      have oc_2 := zk_nle (by decide +kernel : (14 : Int32).toInt = 14) rfl c_2
      refine lv_aload_n hx hb dX2_fillFree_16 rfl (lv_at hl 2 rfl) ?_
      refine lv_iload_n hx hb dX2_fillFree_17 rfl (lv_at hl 0 rfl) ?_
      refine lv_aload_n hx hb dX2_fillFree_18 rfl (lv_at hl 1 rfl) ?_
      refine va_get (D := (dC, dI)) (ci := 2) (v := .ref r0_4) (C := RX2) (T := TX2) (N := 6) hx hb hts zn_X2_fillFree_X2 hown hK hP 0 rfl rfl 4 (by decide) (hts (.fieldLink RX2 15 "ShortEnough$Groups" "fixedAs" "[I") zw_X2_fillFree_64) (fun _ h9 => h9) rfl dX2_fillFree_19 ?_
      refine lv_iload_n hx hb dX2_fillFree_22 rfl (lv_at hl 0 rfl) ?_
      refine va_iald hx hb hK hP 2 1 rfl rfl (vp_in_iff.mpr ⟨by omega, by omega⟩) dX2_fillFree_23 ?_
      refine lv_topi (fun x_3 ex_3 => ?_)
      refine lv_iconst (v := (-1)) hx hb dX2_fillFree_24 (by decide +kernel) ?_
      refine lv_icmp_ne (tgt := 32) hx hb dX2_fillFree_25 (by decide) (fun c_4 => ?_) (fun c_4 => ?_)
      · have oc_4 := zk_ne rfl (by decide +kernel : ((-1) : Int32).toInt = -1) c_4
        refine lv_aload_n hx hb dX2_fillFree_32 rfl (lv_at hl 1 rfl) ?_
        refine va_get (D := (dC, dI)) (ci := 2) (v := .ref r0_4) (C := RX2) (T := TX2) (N := 6) hx hb hts zn_X2_fillFree_X2 hown hK hP 0 rfl rfl 4 (by decide) (hts (.fieldLink RX2 15 "ShortEnough$Groups" "fixedAs" "[I") zw_X2_fillFree_64) (fun _ h9 => h9) rfl dX2_fillFree_33 ?_
        refine lv_iload_n hx hb dX2_fillFree_36 rfl (lv_at hl 0 rfl) ?_
        refine va_iald hx hb hK hP 2 1 rfl rfl (vp_in_iff.mpr ⟨by omega, by omega⟩) dX2_fillFree_37 ?_
        refine W.eq (g2 := F0 m 38 ls [.int x_3, .int y2_3, .ref h1]) (by rw [← ex_3]) ?_
        refine va_iast hx hb hK hP hD hS 1 0 rfl rfl (vp_in_iff.mpr ⟨by omega, by omega⟩) dX2_fillFree_38 (fun H locs hP hD hS => ?_)
        obtain ⟨f_5, ef_5⟩ : ∃ g : Nat → Int32, g = upd g2_h1 (y2_3 : Int32).toNatClampNeg x_3 := ⟨_, rfl⟩
        have hP : va_P (dC, dI) vwCl [(h0, .inr (2, [.int v0_0, .int v0_1, .int v0_2, .ref r0_3, .ref r0_4, .ref r0_5])), (h1, .inl (k1, 14, .inl f_5)), (r0_4, .inl (k2, 14, .inl f2))] H := by rw [ef_5]; exact hP
        have hD : va_D A [(h0, .inr (2, [.int v0_0, .int v0_1, .int v0_2, .ref r0_3, .ref r0_4, .ref r0_5])), (h1, .inl (k1, 14, .inl f_5)), (r0_4, .inl (k2, 14, .inl f2))] := by rw [ef_5]; exact hD
        obtain ⟨x_6, ex_6⟩ : ∃ y : Int32, y = y2_3 + 1 := ⟨_, rfl⟩
        refine lv_iinc (v := x_6) (lv' := [(3, .int x_6), (0, .ref h0), (1, .ref h1), (2, .int p2)]) hx hb dX2_fillFree_39 hl (k := 0) rfl (by rw [ex_6]; rfl) (by decide) rfl (fun ls hl => ?_)
        have hx_6 := zo_add ex_6 rfl (by decide +kernel : (1 : Int32).toInt = 1) (by omega)
        refine lv_goto (tgt := 2) hx hb dX2_fillFree_42 (by decide) ?_
        exact ih2  f_5 x_6 H locs ls (by omega) (by omega) (by omega)  (by omega) hP hD hS (lv_sub hl [0, 1, 2, 3] rfl)
      have oc_4 := zk_eq rfl (by decide +kernel : ((-1) : Int32).toInt = -1) c_4
      refine lv_iload_n hx hb dX2_fillFree_28 rfl (lv_at hl 3 rfl) ?_
      refine lv_goto (tgt := 38) hx hb dX2_fillFree_29 (by decide) ?_
      refine va_iast hx hb hK hP hD hS 1 0 rfl rfl (vp_in_iff.mpr ⟨by omega, by omega⟩) dX2_fillFree_38 (fun H locs hP hD hS => ?_)
      obtain ⟨f_7, ef_7⟩ : ∃ g : Nat → Int32, g = upd g2_h1 (y2_3 : Int32).toNatClampNeg p2 := ⟨_, rfl⟩
      have hP : va_P (dC, dI) vwCl [(h0, .inr (2, [.int v0_0, .int v0_1, .int v0_2, .ref r0_3, .ref r0_4, .ref r0_5])), (h1, .inl (k1, 14, .inl f_7)), (r0_4, .inl (k2, 14, .inl f2))] H := by rw [ef_7]; exact hP
      have hD : va_D A [(h0, .inr (2, [.int v0_0, .int v0_1, .int v0_2, .ref r0_3, .ref r0_4, .ref r0_5])), (h1, .inl (k1, 14, .inl f_7)), (r0_4, .inl (k2, 14, .inl f2))] := by rw [ef_7]; exact hD
      obtain ⟨x_8, ex_8⟩ : ∃ y : Int32, y = y2_3 + 1 := ⟨_, rfl⟩
      refine lv_iinc (v := x_8) (lv' := [(3, .int x_8), (0, .ref h0), (1, .ref h1), (2, .int p2)]) hx hb dX2_fillFree_39 hl (k := 0) rfl (by rw [ex_8]; rfl) (by decide) rfl (fun ls hl => ?_)
      have hx_8 := zo_add ex_8 rfl (by decide +kernel : (1 : Int32).toInt = 1) (by omega)
      refine lv_goto (tgt := 2) hx hb dX2_fillFree_42 (by decide) ?_
      exact ih2  f_7 x_8 H locs ls (by omega) (by omega) (by omega)  (by omega) hP hD hS (lv_sub hl [0, 1, 2, 3] rfl)
  have kk0 : (0 : Int32).toInt = 0 := (by decide +kernel)
  exact lp2 ((15 - (0 : Int32).toInt).toNat + 1) f1 0 s.heap [] ls (by omega) (by omega) (by omega)  (by omega) hP hD hS (lv_sub hl [0, 1, 2, 3] rfl)
set_option maxHeartbeats 4000000 in
set_option maxRecDepth 100000 in
theorem zs_X4_fix (l : Launch) (dC : Nat → ClassId) (dI : Nat → Nat → Nat) (h0 : Nat) (p1 : Int32) (p2 : Int32) (v0_0 : Int32) (v0_1 : Int32) (r0_2 : Nat) (r0_3 : Nat) (r0_4 : Nat) (r0_5 : Nat) (r0_6 : Nat) (r0_7 : Nat) (r0_8 : Nat) (r0_9 : Nat) (k1 : Nat) (f1 : Nat → Int32) (hq_v0_0 : (0 : Int) ≤ v0_0.toInt ∧ v0_0.toInt ≤ 14) (sz : Nat) : Met l yX4_fix wsX4_fix ({ frames := 0, cells := 0, slots := 0, locals := 0 }) (va_Pc [.ref h0, .int p1, .int p2] (fun U => U.heap.size = sz ∧ va_P (dC, dI) vwCl [(h0, .inr (4, [.int v0_0, .int v0_1, .ref r0_2, .ref r0_3, .ref r0_4, .ref r0_5, .ref r0_6, .ref r0_7, .ref r0_8, .ref r0_9])), (r0_4, .inl (k1, 14, .inl f1))] U.heap ∧ va_K (dC, dI) vwCl [(k1, .int)] U ∧ va_D (fun _ => True) [(h0, .inr (4, [.int v0_0, .int v0_1, .ref r0_2, .ref r0_3, .ref r0_4, .ref r0_5, .ref r0_6, .ref r0_7, .ref r0_8, .ref r0_9])), (r0_4, .inl (k1, 14, .inl f1))])) (va_Qv (fun (u : zV) => True) (fun u t => va_P (dC, dI) vwCl [(h0, .inr (4, [.int v0_0, .int v0_1, .ref r0_2, .ref r0_3, .ref r0_4, .ref r0_5, .ref r0_6, .ref r0_7, .ref r0_8, .ref r0_9])), (r0_4, .inl (k1, 14, .inl (u.2.1 0)))] t.heap ∧ va_K (dC, dI) vwCl [(k1, .int)] t ∧ va_D (va_A [(h0, .inr (4, [.int v0_0, .int v0_1, .ref r0_2, .ref r0_3, .ref r0_4, .ref r0_5, .ref r0_6, .ref r0_7, .ref r0_8, .ref r0_9])), (r0_4, .inl (k1, 14, .inl f1))] sz) [(h0, .inr (4, [.int v0_0, .int v0_1, .ref r0_2, .ref r0_3, .ref r0_4, .ref r0_5, .ref r0_6, .ref r0_7, .ref r0_8, .ref r0_9])), (r0_4, .inl (k1, 14, .inl (u.2.1 0)))]) (va_A [(h0, .inr (4, [.int v0_0, .int v0_1, .ref r0_2, .ref r0_3, .ref r0_4, .ref r0_5, .ref r0_6, .ref r0_7, .ref r0_8, .ref r0_9])), (r0_4, .inl (k1, 14, .inl f1))] sz)) 0 0 (va_A [(h0, .inr (4, [.int v0_0, .int v0_1, .ref r0_2, .ref r0_3, .ref r0_4, .ref r0_5, .ref r0_6, .ref r0_7, .ref r0_8, .ref r0_9])), (r0_4, .inl (k1, 14, .inl f1))] sz) := by
  refine Met.ofW (cc := cX4_fix) (maxL := 3) (ret := none) (by decide +kernel) rfl ?_
  intro p e s m args below meth c s₁ B hml hv
  obtain ⟨rfl, hsz, hP, hK, hD0⟩ := hv
  have hx := B.exec
  have hb := B.bytes
  have hr := B.returns
  have hts := atoms_spec (ws := wsX4_fix) B.pre
  have hown : s.vm.findClass RX4 = some m.cls := findClass_of_methodNamed B.named
  have hlocks := B.notSynchronized
  subst hsz
  have hD := hD0.self (sz := s.heap.size)
  generalize hAe : va_A [(h0, .inr (4, [.int v0_0, .int v0_1, .ref r0_2, .ref r0_3, .ref r0_4, .ref r0_5, .ref r0_6, .ref r0_7, .ref r0_8, .ref r0_9])), (r0_4, .inl (k1, 14, .inl f1))] s.heap.size = A at hD ⊢
  have hA : ∀ q : Nat, s.heap.size ≤ q → A q := fun q h => by rw [← hAe]; exact Or.inr h
  have hS : va_S A s.heap s.heap [] := va_S.rf
  have hP : va_P (dC, dI) vwCl [(h0, .inr (4, [.int v0_0, .int v0_1, .ref r0_2, .ref r0_3, .ref r0_4, .ref r0_5, .ref r0_6, .ref r0_7, .ref r0_8, .ref r0_9])), (r0_4, .inl (k1, 14, .inl f1))] s.heap := hP
  have hl := lv_entry ([.ref h0, .int p1, .int p2]) (n := 3) (Nat.le_of_ble_eq_true rfl)
  rw [lg_entry_eq]
  generalize (lg_sl ([.ref h0, .int p1, .int p2]) ++ List.replicate (3 - (lg_sl ([.ref h0, .int p1, .int p2])).length) Slot.unset).toArray = ls at hl ⊢
  have hl : lv_has ls 3 [(0, .ref h0), (1, .int p1), (2, .int p2)] := hl
  generalize hQ : MQ below (va_Qv (fun (u : zV) => True) (fun u t => va_P (dC, dI) vwCl [(h0, .inr (4, [.int v0_0, .int v0_1, .ref r0_2, .ref r0_3, .ref r0_4, .ref r0_5, .ref r0_6, .ref r0_7, .ref r0_8, .ref r0_9])), (r0_4, .inl (k1, 14, .inl (u.2.1 0)))] t.heap ∧ va_K (dC, dI) vwCl [(k1, .int)] t ∧ va_D A [(h0, .inr (4, [.int v0_0, .int v0_1, .ref r0_2, .ref r0_3, .ref r0_4, .ref r0_5, .ref r0_6, .ref r0_7, .ref r0_8, .ref r0_9])), (r0_4, .inl (k1, 14, .inl (u.2.1 0)))]) A) ([.ref h0, .int p1, .int p2] : List Value).toArray s 0 0 A = Q
  refine lv_iload_n hx hb dX4_fix_0 rfl (lv_at hl 1 rfl) ?_
  refine lv_if_lt (tgt := 19) hx hb dX4_fix_1 (by decide) (fun c_1 => ?_) (fun c_1 => ?_)
  · have oc_1 := zk_lt rfl (by decide +kernel : (0 : Int32).toInt = 0) c_1
    have hP9 := hP.sub (ws' := [(h0, .inr (4, [.int v0_0, .int v0_1, .ref r0_2, .ref r0_3, .ref r0_4, .ref r0_5, .ref r0_6, .ref r0_7, .ref r0_8, .ref r0_9])), (r0_4, .inl (k1, 14, .inl f1))]) [0, 1] rfl
    have hD9 := hD.sub (ws' := [(h0, .inr (4, [.int v0_0, .int v0_1, .ref r0_2, .ref r0_3, .ref r0_4, .ref r0_5, .ref r0_6, .ref r0_7, .ref r0_8, .ref r0_9])), (r0_4, .inl (k1, 14, .inl f1))]) [0, 1] (by decide) rfl
    have hK9 := hK.sub (tys' := [(k1, .int)]) [0] rfl
    rw [← hQ]
    exact W.vret hx hb hr (fun t ht hW => ⟨⟨((fun k => ([] : List Int32).getD k 0), (fun k => ([f1] : List (Nat → Int32)).getD k (fun _ => 0)), (fun k => ([] : List (Nat → Int64)).getD k (fun _ => 0))), rfl, trivial, by rw [ht]; exact hP9, va_K.moved hW.alike hK9, hD9⟩, hS.F ht⟩) hS.2.2 dX4_fix_19
  have oc_1 := zk_nlt rfl (by decide +kernel : (0 : Int32).toInt = 0) c_1
  refine lv_iload_n hx hb dX4_fix_4 rfl (lv_at hl 1 rfl) ?_
  refine lv_aload_n hx hb dX4_fix_5 rfl (lv_at hl 0 rfl) ?_
  refine va_get (D := (dC, dI)) (ci := 4) (v := .int v0_0) (C := RX4) (T := TX4) (N := 10) hx hb hts zn_X4_fix_X4 hown hK hP 0 rfl rfl 0 (by decide) (hts (.fieldLink RX4 36 "ShortEnough$Numbers" "count" "I") zw_X4_fix_66) (fun _ h9 => h9) rfl dX4_fix_6 ?_
  refine lv_icmp_ge (tgt := 19) hx hb dX4_fix_9 (by decide) (fun c_2 => ?_) (fun c_2 => ?_)
  · have oc_2 := zk_le rfl rfl c_2
    have hP9 := hP.sub (ws' := [(h0, .inr (4, [.int v0_0, .int v0_1, .ref r0_2, .ref r0_3, .ref r0_4, .ref r0_5, .ref r0_6, .ref r0_7, .ref r0_8, .ref r0_9])), (r0_4, .inl (k1, 14, .inl f1))]) [0, 1] rfl
    have hD9 := hD.sub (ws' := [(h0, .inr (4, [.int v0_0, .int v0_1, .ref r0_2, .ref r0_3, .ref r0_4, .ref r0_5, .ref r0_6, .ref r0_7, .ref r0_8, .ref r0_9])), (r0_4, .inl (k1, 14, .inl f1))]) [0, 1] (by decide) rfl
    have hK9 := hK.sub (tys' := [(k1, .int)]) [0] rfl
    rw [← hQ]
    exact W.vret hx hb hr (fun t ht hW => ⟨⟨((fun k => ([] : List Int32).getD k 0), (fun k => ([f1] : List (Nat → Int32)).getD k (fun _ => 0)), (fun k => ([] : List (Nat → Int64)).getD k (fun _ => 0))), rfl, trivial, by rw [ht]; exact hP9, va_K.moved hW.alike hK9, hD9⟩, hS.F ht⟩) hS.2.2 dX4_fix_19
  have oc_2 := zk_nle rfl rfl c_2
  refine lv_aload_n hx hb dX4_fix_12 rfl (lv_at hl 0 rfl) ?_
  refine va_get (D := (dC, dI)) (ci := 4) (v := .ref r0_4) (C := RX4) (T := TX4) (N := 10) hx hb hts zn_X4_fix_X4 hown hK hP 0 rfl rfl 4 (by decide) (hts (.fieldLink RX4 18 "ShortEnough$Numbers" "fixedAs" "[I") zw_X4_fix_67) (fun _ h9 => h9) rfl dX4_fix_13 ?_
  refine lv_iload_n hx hb dX4_fix_16 rfl (lv_at hl 1 rfl) ?_
  refine lv_iload_n hx hb dX4_fix_17 rfl (lv_at hl 2 rfl) ?_
  refine va_iast hx hb hK hP hD hS 1 0 rfl rfl (vp_in_iff.mpr ⟨by omega, by omega⟩) dX4_fix_18 (fun H locs hP hD hS => ?_)
  obtain ⟨f_3, ef_3⟩ : ∃ g : Nat → Int32, g = upd f1 (p1 : Int32).toNatClampNeg p2 := ⟨_, rfl⟩
  have hP : va_P (dC, dI) vwCl [(h0, .inr (4, [.int v0_0, .int v0_1, .ref r0_2, .ref r0_3, .ref r0_4, .ref r0_5, .ref r0_6, .ref r0_7, .ref r0_8, .ref r0_9])), (r0_4, .inl (k1, 14, .inl f_3))] H := by rw [ef_3]; exact hP
  have hD : va_D A [(h0, .inr (4, [.int v0_0, .int v0_1, .ref r0_2, .ref r0_3, .ref r0_4, .ref r0_5, .ref r0_6, .ref r0_7, .ref r0_8, .ref r0_9])), (r0_4, .inl (k1, 14, .inl f_3))] := by rw [ef_3]; exact hD
  have hP9 := hP.sub (ws' := [(h0, .inr (4, [.int v0_0, .int v0_1, .ref r0_2, .ref r0_3, .ref r0_4, .ref r0_5, .ref r0_6, .ref r0_7, .ref r0_8, .ref r0_9])), (r0_4, .inl (k1, 14, .inl f_3))]) [0, 1] rfl
  have hD9 := hD.sub (ws' := [(h0, .inr (4, [.int v0_0, .int v0_1, .ref r0_2, .ref r0_3, .ref r0_4, .ref r0_5, .ref r0_6, .ref r0_7, .ref r0_8, .ref r0_9])), (r0_4, .inl (k1, 14, .inl f_3))]) [0, 1] (by decide) rfl
  have hK9 := hK.sub (tys' := [(k1, .int)]) [0] rfl
  rw [← hQ]
  exact W.vret hx hb hr (fun t ht hW => ⟨⟨((fun k => ([] : List Int32).getD k 0), (fun k => ([f_3] : List (Nat → Int32)).getD k (fun _ => 0)), (fun k => ([] : List (Nat → Int64)).getD k (fun _ => 0))), rfl, trivial, by rw [ht]; exact hP9, va_K.moved hW.alike hK9, hD9⟩, hS.F ht⟩) hS.2.2 dX4_fix_19
set_option maxHeartbeats 4000000 in
set_option maxRecDepth 100000 in
theorem zs_X4_allow (l : Launch) (dC : Nat → ClassId) (dI : Nat → Nat → Nat) (h0 : Nat) (p1 : Int32) (p2 : Int32) (v0_0 : Int32) (v0_1 : Int32) (r0_2 : Nat) (r0_3 : Nat) (r0_4 : Nat) (r0_5 : Nat) (r0_6 : Nat) (r0_7 : Nat) (r0_8 : Nat) (r0_9 : Nat) (k1 : Nat) (f1 : Nat → Int32) (hq_v0_0 : (0 : Int) ≤ v0_0.toInt ∧ v0_0.toInt ≤ 14) (sz : Nat) : Met l yX4_allow wsX4_allow ({ frames := 0, cells := 0, slots := 0, locals := 0 }) (va_Pc [.ref h0, .int p1, .int p2] (fun U => U.heap.size = sz ∧ va_P (dC, dI) vwCl [(h0, .inr (4, [.int v0_0, .int v0_1, .ref r0_2, .ref r0_3, .ref r0_4, .ref r0_5, .ref r0_6, .ref r0_7, .ref r0_8, .ref r0_9])), (r0_5, .inl (k1, 14, .inl f1))] U.heap ∧ va_K (dC, dI) vwCl [(k1, .int)] U ∧ va_D (fun _ => True) [(h0, .inr (4, [.int v0_0, .int v0_1, .ref r0_2, .ref r0_3, .ref r0_4, .ref r0_5, .ref r0_6, .ref r0_7, .ref r0_8, .ref r0_9])), (r0_5, .inl (k1, 14, .inl f1))])) (va_Qv (fun (u : zV) => True) (fun u t => va_P (dC, dI) vwCl [(h0, .inr (4, [.int v0_0, .int v0_1, .ref r0_2, .ref r0_3, .ref r0_4, .ref r0_5, .ref r0_6, .ref r0_7, .ref r0_8, .ref r0_9])), (r0_5, .inl (k1, 14, .inl (u.2.1 0)))] t.heap ∧ va_K (dC, dI) vwCl [(k1, .int)] t ∧ va_D (va_A [(h0, .inr (4, [.int v0_0, .int v0_1, .ref r0_2, .ref r0_3, .ref r0_4, .ref r0_5, .ref r0_6, .ref r0_7, .ref r0_8, .ref r0_9])), (r0_5, .inl (k1, 14, .inl f1))] sz) [(h0, .inr (4, [.int v0_0, .int v0_1, .ref r0_2, .ref r0_3, .ref r0_4, .ref r0_5, .ref r0_6, .ref r0_7, .ref r0_8, .ref r0_9])), (r0_5, .inl (k1, 14, .inl (u.2.1 0)))]) (va_A [(h0, .inr (4, [.int v0_0, .int v0_1, .ref r0_2, .ref r0_3, .ref r0_4, .ref r0_5, .ref r0_6, .ref r0_7, .ref r0_8, .ref r0_9])), (r0_5, .inl (k1, 14, .inl f1))] sz)) 0 0 (va_A [(h0, .inr (4, [.int v0_0, .int v0_1, .ref r0_2, .ref r0_3, .ref r0_4, .ref r0_5, .ref r0_6, .ref r0_7, .ref r0_8, .ref r0_9])), (r0_5, .inl (k1, 14, .inl f1))] sz) := by
  refine Met.ofW (cc := cX4_allow) (maxL := 3) (ret := none) (by decide +kernel) rfl ?_
  intro p e s m args below meth c s₁ B hml hv
  obtain ⟨rfl, hsz, hP, hK, hD0⟩ := hv
  have hx := B.exec
  have hb := B.bytes
  have hr := B.returns
  have hts := atoms_spec (ws := wsX4_allow) B.pre
  have hown : s.vm.findClass RX4 = some m.cls := findClass_of_methodNamed B.named
  have hlocks := B.notSynchronized
  subst hsz
  have hD := hD0.self (sz := s.heap.size)
  generalize hAe : va_A [(h0, .inr (4, [.int v0_0, .int v0_1, .ref r0_2, .ref r0_3, .ref r0_4, .ref r0_5, .ref r0_6, .ref r0_7, .ref r0_8, .ref r0_9])), (r0_5, .inl (k1, 14, .inl f1))] s.heap.size = A at hD ⊢
  have hA : ∀ q : Nat, s.heap.size ≤ q → A q := fun q h => by rw [← hAe]; exact Or.inr h
  have hS : va_S A s.heap s.heap [] := va_S.rf
  have hP : va_P (dC, dI) vwCl [(h0, .inr (4, [.int v0_0, .int v0_1, .ref r0_2, .ref r0_3, .ref r0_4, .ref r0_5, .ref r0_6, .ref r0_7, .ref r0_8, .ref r0_9])), (r0_5, .inl (k1, 14, .inl f1))] s.heap := hP
  have hl := lv_entry ([.ref h0, .int p1, .int p2]) (n := 3) (Nat.le_of_ble_eq_true rfl)
  rw [lg_entry_eq]
  generalize (lg_sl ([.ref h0, .int p1, .int p2]) ++ List.replicate (3 - (lg_sl ([.ref h0, .int p1, .int p2])).length) Slot.unset).toArray = ls at hl ⊢
  have hl : lv_has ls 3 [(0, .ref h0), (1, .int p1), (2, .int p2)] := hl
  generalize hQ : MQ below (va_Qv (fun (u : zV) => True) (fun u t => va_P (dC, dI) vwCl [(h0, .inr (4, [.int v0_0, .int v0_1, .ref r0_2, .ref r0_3, .ref r0_4, .ref r0_5, .ref r0_6, .ref r0_7, .ref r0_8, .ref r0_9])), (r0_5, .inl (k1, 14, .inl (u.2.1 0)))] t.heap ∧ va_K (dC, dI) vwCl [(k1, .int)] t ∧ va_D A [(h0, .inr (4, [.int v0_0, .int v0_1, .ref r0_2, .ref r0_3, .ref r0_4, .ref r0_5, .ref r0_6, .ref r0_7, .ref r0_8, .ref r0_9])), (r0_5, .inl (k1, 14, .inl (u.2.1 0)))]) A) ([.ref h0, .int p1, .int p2] : List Value).toArray s 0 0 A = Q
  refine lv_iload_n hx hb dX4_allow_0 rfl (lv_at hl 1 rfl) ?_
  refine lv_if_lt (tgt := 19) hx hb dX4_allow_1 (by decide) (fun c_1 => ?_) (fun c_1 => ?_)
  · have oc_1 := zk_lt rfl (by decide +kernel : (0 : Int32).toInt = 0) c_1
    have hP9 := hP.sub (ws' := [(h0, .inr (4, [.int v0_0, .int v0_1, .ref r0_2, .ref r0_3, .ref r0_4, .ref r0_5, .ref r0_6, .ref r0_7, .ref r0_8, .ref r0_9])), (r0_5, .inl (k1, 14, .inl f1))]) [0, 1] rfl
    have hD9 := hD.sub (ws' := [(h0, .inr (4, [.int v0_0, .int v0_1, .ref r0_2, .ref r0_3, .ref r0_4, .ref r0_5, .ref r0_6, .ref r0_7, .ref r0_8, .ref r0_9])), (r0_5, .inl (k1, 14, .inl f1))]) [0, 1] (by decide) rfl
    have hK9 := hK.sub (tys' := [(k1, .int)]) [0] rfl
    rw [← hQ]
    exact W.vret hx hb hr (fun t ht hW => ⟨⟨((fun k => ([] : List Int32).getD k 0), (fun k => ([f1] : List (Nat → Int32)).getD k (fun _ => 0)), (fun k => ([] : List (Nat → Int64)).getD k (fun _ => 0))), rfl, trivial, by rw [ht]; exact hP9, va_K.moved hW.alike hK9, hD9⟩, hS.F ht⟩) hS.2.2 dX4_allow_19
  have oc_1 := zk_nlt rfl (by decide +kernel : (0 : Int32).toInt = 0) c_1
  refine lv_iload_n hx hb dX4_allow_4 rfl (lv_at hl 1 rfl) ?_
  refine lv_aload_n hx hb dX4_allow_5 rfl (lv_at hl 0 rfl) ?_
  refine va_get (D := (dC, dI)) (ci := 4) (v := .int v0_0) (C := RX4) (T := TX4) (N := 10) hx hb hts zn_X4_allow_X4 hown hK hP 0 rfl rfl 0 (by decide) (hts (.fieldLink RX4 36 "ShortEnough$Numbers" "count" "I") zw_X4_allow_69) (fun _ h9 => h9) rfl dX4_allow_6 ?_
  refine lv_icmp_ge (tgt := 19) hx hb dX4_allow_9 (by decide) (fun c_2 => ?_) (fun c_2 => ?_)
  · have oc_2 := zk_le rfl rfl c_2
    have hP9 := hP.sub (ws' := [(h0, .inr (4, [.int v0_0, .int v0_1, .ref r0_2, .ref r0_3, .ref r0_4, .ref r0_5, .ref r0_6, .ref r0_7, .ref r0_8, .ref r0_9])), (r0_5, .inl (k1, 14, .inl f1))]) [0, 1] rfl
    have hD9 := hD.sub (ws' := [(h0, .inr (4, [.int v0_0, .int v0_1, .ref r0_2, .ref r0_3, .ref r0_4, .ref r0_5, .ref r0_6, .ref r0_7, .ref r0_8, .ref r0_9])), (r0_5, .inl (k1, 14, .inl f1))]) [0, 1] (by decide) rfl
    have hK9 := hK.sub (tys' := [(k1, .int)]) [0] rfl
    rw [← hQ]
    exact W.vret hx hb hr (fun t ht hW => ⟨⟨((fun k => ([] : List Int32).getD k 0), (fun k => ([f1] : List (Nat → Int32)).getD k (fun _ => 0)), (fun k => ([] : List (Nat → Int64)).getD k (fun _ => 0))), rfl, trivial, by rw [ht]; exact hP9, va_K.moved hW.alike hK9, hD9⟩, hS.F ht⟩) hS.2.2 dX4_allow_19
  have oc_2 := zk_nle rfl rfl c_2
  refine lv_aload_n hx hb dX4_allow_12 rfl (lv_at hl 0 rfl) ?_
  refine va_get (D := (dC, dI)) (ci := 4) (v := .ref r0_5) (C := RX4) (T := TX4) (N := 10) hx hb hts zn_X4_allow_X4 hown hK hP 0 rfl rfl 5 (by decide) (hts (.fieldLink RX4 21 "ShortEnough$Numbers" "allowed" "[I") zw_X4_allow_70) (fun _ h9 => h9) rfl dX4_allow_13 ?_
  refine lv_iload_n hx hb dX4_allow_16 rfl (lv_at hl 1 rfl) ?_
  refine lv_iload_n hx hb dX4_allow_17 rfl (lv_at hl 2 rfl) ?_
  refine va_iast hx hb hK hP hD hS 1 0 rfl rfl (vp_in_iff.mpr ⟨by omega, by omega⟩) dX4_allow_18 (fun H locs hP hD hS => ?_)
  obtain ⟨f_3, ef_3⟩ : ∃ g : Nat → Int32, g = upd f1 (p1 : Int32).toNatClampNeg p2 := ⟨_, rfl⟩
  have hP : va_P (dC, dI) vwCl [(h0, .inr (4, [.int v0_0, .int v0_1, .ref r0_2, .ref r0_3, .ref r0_4, .ref r0_5, .ref r0_6, .ref r0_7, .ref r0_8, .ref r0_9])), (r0_5, .inl (k1, 14, .inl f_3))] H := by rw [ef_3]; exact hP
  have hD : va_D A [(h0, .inr (4, [.int v0_0, .int v0_1, .ref r0_2, .ref r0_3, .ref r0_4, .ref r0_5, .ref r0_6, .ref r0_7, .ref r0_8, .ref r0_9])), (r0_5, .inl (k1, 14, .inl f_3))] := by rw [ef_3]; exact hD
  have hP9 := hP.sub (ws' := [(h0, .inr (4, [.int v0_0, .int v0_1, .ref r0_2, .ref r0_3, .ref r0_4, .ref r0_5, .ref r0_6, .ref r0_7, .ref r0_8, .ref r0_9])), (r0_5, .inl (k1, 14, .inl f_3))]) [0, 1] rfl
  have hD9 := hD.sub (ws' := [(h0, .inr (4, [.int v0_0, .int v0_1, .ref r0_2, .ref r0_3, .ref r0_4, .ref r0_5, .ref r0_6, .ref r0_7, .ref r0_8, .ref r0_9])), (r0_5, .inl (k1, 14, .inl f_3))]) [0, 1] (by decide) rfl
  have hK9 := hK.sub (tys' := [(k1, .int)]) [0] rfl
  rw [← hQ]
  exact W.vret hx hb hr (fun t ht hW => ⟨⟨((fun k => ([] : List Int32).getD k 0), (fun k => ([f_3] : List (Nat → Int32)).getD k (fun _ => 0)), (fun k => ([] : List (Nat → Int64)).getD k (fun _ => 0))), rfl, trivial, by rw [ht]; exact hP9, va_K.moved hW.alike hK9, hD9⟩, hS.F ht⟩) hS.2.2 dX4_allow_19
set_option maxHeartbeats 4000000 in
set_option maxRecDepth 100000 in
theorem zs_X4_join (l : Launch) (dC : Nat → ClassId) (dI : Nat → Nat → Nat) (h0 : Nat) (p1 : Int32) (p2 : Int32) (v0_0 : Int32) (v0_1 : Int32) (r0_2 : Nat) (r0_3 : Nat) (r0_4 : Nat) (r0_5 : Nat) (r0_6 : Nat) (r0_7 : Nat) (r0_8 : Nat) (r0_9 : Nat) (k1 : Nat) (f1 : Nat → Int32) (hq_v0_0 : (0 : Int) ≤ v0_0.toInt ∧ v0_0.toInt ≤ 14) (sz : Nat) : Met l yX4_join wsX4_join ({ frames := 0, cells := 0, slots := 0, locals := 0 }) (va_Pc [.ref h0, .int p1, .int p2] (fun U => U.heap.size = sz ∧ va_P (dC, dI) vwCl [(h0, .inr (4, [.int v0_0, .int v0_1, .ref r0_2, .ref r0_3, .ref r0_4, .ref r0_5, .ref r0_6, .ref r0_7, .ref r0_8, .ref r0_9])), (r0_7, .inl (k1, 14, .inl f1))] U.heap ∧ va_K (dC, dI) vwCl [(k1, .int)] U ∧ va_D (fun _ => True) [(h0, .inr (4, [.int v0_0, .int v0_1, .ref r0_2, .ref r0_3, .ref r0_4, .ref r0_5, .ref r0_6, .ref r0_7, .ref r0_8, .ref r0_9])), (r0_7, .inl (k1, 14, .inl f1))])) (va_Qv (fun (u : zV) => True) (fun u t => va_P (dC, dI) vwCl [(h0, .inr (4, [.int v0_0, .int v0_1, .ref r0_2, .ref r0_3, .ref r0_4, .ref r0_5, .ref r0_6, .ref r0_7, .ref r0_8, .ref r0_9])), (r0_7, .inl (k1, 14, .inl (u.2.1 0)))] t.heap ∧ va_K (dC, dI) vwCl [(k1, .int)] t ∧ va_D (va_A [(h0, .inr (4, [.int v0_0, .int v0_1, .ref r0_2, .ref r0_3, .ref r0_4, .ref r0_5, .ref r0_6, .ref r0_7, .ref r0_8, .ref r0_9])), (r0_7, .inl (k1, 14, .inl f1))] sz) [(h0, .inr (4, [.int v0_0, .int v0_1, .ref r0_2, .ref r0_3, .ref r0_4, .ref r0_5, .ref r0_6, .ref r0_7, .ref r0_8, .ref r0_9])), (r0_7, .inl (k1, 14, .inl (u.2.1 0)))]) (va_A [(h0, .inr (4, [.int v0_0, .int v0_1, .ref r0_2, .ref r0_3, .ref r0_4, .ref r0_5, .ref r0_6, .ref r0_7, .ref r0_8, .ref r0_9])), (r0_7, .inl (k1, 14, .inl f1))] sz)) 0 0 (va_A [(h0, .inr (4, [.int v0_0, .int v0_1, .ref r0_2, .ref r0_3, .ref r0_4, .ref r0_5, .ref r0_6, .ref r0_7, .ref r0_8, .ref r0_9])), (r0_7, .inl (k1, 14, .inl f1))] sz) := by
  refine Met.ofW (cc := cX4_join) (maxL := 5) (ret := none) (by decide +kernel) rfl ?_
  intro p e s m args below meth c s₁ B hml hv
  obtain ⟨rfl, hsz, hP, hK, hD0⟩ := hv
  have hx := B.exec
  have hb := B.bytes
  have hr := B.returns
  have hts := atoms_spec (ws := wsX4_join) B.pre
  have hown : s.vm.findClass RX4 = some m.cls := findClass_of_methodNamed B.named
  have hlocks := B.notSynchronized
  subst hsz
  have hD := hD0.self (sz := s.heap.size)
  generalize hAe : va_A [(h0, .inr (4, [.int v0_0, .int v0_1, .ref r0_2, .ref r0_3, .ref r0_4, .ref r0_5, .ref r0_6, .ref r0_7, .ref r0_8, .ref r0_9])), (r0_7, .inl (k1, 14, .inl f1))] s.heap.size = A at hD ⊢
  have hA : ∀ q : Nat, s.heap.size ≤ q → A q := fun q h => by rw [← hAe]; exact Or.inr h
  have hS : va_S A s.heap s.heap [] := va_S.rf
  have hP : va_P (dC, dI) vwCl [(h0, .inr (4, [.int v0_0, .int v0_1, .ref r0_2, .ref r0_3, .ref r0_4, .ref r0_5, .ref r0_6, .ref r0_7, .ref r0_8, .ref r0_9])), (r0_7, .inl (k1, 14, .inl f1))] s.heap := hP
  have hl := lv_entry ([.ref h0, .int p1, .int p2]) (n := 5) (Nat.le_of_ble_eq_true rfl)
  rw [lg_entry_eq]
  generalize (lg_sl ([.ref h0, .int p1, .int p2]) ++ List.replicate (5 - (lg_sl ([.ref h0, .int p1, .int p2])).length) Slot.unset).toArray = ls at hl ⊢
  have hl : lv_has ls 5 [(0, .ref h0), (1, .int p1), (2, .int p2)] := hl
  generalize hQ : MQ below (va_Qv (fun (u : zV) => True) (fun u t => va_P (dC, dI) vwCl [(h0, .inr (4, [.int v0_0, .int v0_1, .ref r0_2, .ref r0_3, .ref r0_4, .ref r0_5, .ref r0_6, .ref r0_7, .ref r0_8, .ref r0_9])), (r0_7, .inl (k1, 14, .inl (u.2.1 0)))] t.heap ∧ va_K (dC, dI) vwCl [(k1, .int)] t ∧ va_D A [(h0, .inr (4, [.int v0_0, .int v0_1, .ref r0_2, .ref r0_3, .ref r0_4, .ref r0_5, .ref r0_6, .ref r0_7, .ref r0_8, .ref r0_9])), (r0_7, .inl (k1, 14, .inl (u.2.1 0)))]) A) ([.ref h0, .int p1, .int p2] : List Value).toArray s 0 0 A = Q
  refine lv_iload_n hx hb dX4_join_0 rfl (lv_at hl 1 rfl) ?_
  refine lv_if_lt (tgt := 24) hx hb dX4_join_1 (by decide) (fun c_1 => ?_) (fun c_1 => ?_)
  · have oc_1 := zk_lt rfl (by decide +kernel : (0 : Int32).toInt = 0) c_1
    have hP9 := hP.sub (ws' := [(h0, .inr (4, [.int v0_0, .int v0_1, .ref r0_2, .ref r0_3, .ref r0_4, .ref r0_5, .ref r0_6, .ref r0_7, .ref r0_8, .ref r0_9])), (r0_7, .inl (k1, 14, .inl f1))]) [0, 1] rfl
    have hD9 := hD.sub (ws' := [(h0, .inr (4, [.int v0_0, .int v0_1, .ref r0_2, .ref r0_3, .ref r0_4, .ref r0_5, .ref r0_6, .ref r0_7, .ref r0_8, .ref r0_9])), (r0_7, .inl (k1, 14, .inl f1))]) [0, 1] (by decide) rfl
    have hK9 := hK.sub (tys' := [(k1, .int)]) [0] rfl
    rw [← hQ]
    exact W.vret hx hb hr (fun t ht hW => ⟨⟨((fun k => ([] : List Int32).getD k 0), (fun k => ([f1] : List (Nat → Int32)).getD k (fun _ => 0)), (fun k => ([] : List (Nat → Int64)).getD k (fun _ => 0))), rfl, trivial, by rw [ht]; exact hP9, va_K.moved hW.alike hK9, hD9⟩, hS.F ht⟩) hS.2.2 dX4_join_24
  have oc_1 := zk_nlt rfl (by decide +kernel : (0 : Int32).toInt = 0) c_1
  refine lv_iload_n hx hb dX4_join_4 rfl (lv_at hl 1 rfl) ?_
  refine lv_aload_n hx hb dX4_join_5 rfl (lv_at hl 0 rfl) ?_
  refine va_get (D := (dC, dI)) (ci := 4) (v := .int v0_0) (C := RX4) (T := TX4) (N := 10) hx hb hts zn_X4_join_X4 hown hK hP 0 rfl rfl 0 (by decide) (hts (.fieldLink RX4 36 "ShortEnough$Numbers" "count" "I") zw_X4_join_72) (fun _ h9 => h9) rfl dX4_join_6 ?_
  refine lv_icmp_ge (tgt := 24) hx hb dX4_join_9 (by decide) (fun c_2 => ?_) (fun c_2 => ?_)
  · have oc_2 := zk_le rfl rfl c_2
    have hP9 := hP.sub (ws' := [(h0, .inr (4, [.int v0_0, .int v0_1, .ref r0_2, .ref r0_3, .ref r0_4, .ref r0_5, .ref r0_6, .ref r0_7, .ref r0_8, .ref r0_9])), (r0_7, .inl (k1, 14, .inl f1))]) [0, 1] rfl
    have hD9 := hD.sub (ws' := [(h0, .inr (4, [.int v0_0, .int v0_1, .ref r0_2, .ref r0_3, .ref r0_4, .ref r0_5, .ref r0_6, .ref r0_7, .ref r0_8, .ref r0_9])), (r0_7, .inl (k1, 14, .inl f1))]) [0, 1] (by decide) rfl
    have hK9 := hK.sub (tys' := [(k1, .int)]) [0] rfl
    rw [← hQ]
    exact W.vret hx hb hr (fun t ht hW => ⟨⟨((fun k => ([] : List Int32).getD k 0), (fun k => ([f1] : List (Nat → Int32)).getD k (fun _ => 0)), (fun k => ([] : List (Nat → Int64)).getD k (fun _ => 0))), rfl, trivial, by rw [ht]; exact hP9, va_K.moved hW.alike hK9, hD9⟩, hS.F ht⟩) hS.2.2 dX4_join_24
  have oc_2 := zk_nle rfl rfl c_2
  refine lv_iload_n hx hb dX4_join_12 rfl (lv_at hl 2 rfl) ?_
  refine lv_if_lt (tgt := 24) hx hb dX4_join_13 (by decide) (fun c_3 => ?_) (fun c_3 => ?_)
  · have oc_3 := zk_lt rfl (by decide +kernel : (0 : Int32).toInt = 0) c_3
    have hP9 := hP.sub (ws' := [(h0, .inr (4, [.int v0_0, .int v0_1, .ref r0_2, .ref r0_3, .ref r0_4, .ref r0_5, .ref r0_6, .ref r0_7, .ref r0_8, .ref r0_9])), (r0_7, .inl (k1, 14, .inl f1))]) [0, 1] rfl
    have hD9 := hD.sub (ws' := [(h0, .inr (4, [.int v0_0, .int v0_1, .ref r0_2, .ref r0_3, .ref r0_4, .ref r0_5, .ref r0_6, .ref r0_7, .ref r0_8, .ref r0_9])), (r0_7, .inl (k1, 14, .inl f1))]) [0, 1] (by decide) rfl
    have hK9 := hK.sub (tys' := [(k1, .int)]) [0] rfl
    rw [← hQ]
    exact W.vret hx hb hr (fun t ht hW => ⟨⟨((fun k => ([] : List Int32).getD k 0), (fun k => ([f1] : List (Nat → Int32)).getD k (fun _ => 0)), (fun k => ([] : List (Nat → Int64)).getD k (fun _ => 0))), rfl, trivial, by rw [ht]; exact hP9, va_K.moved hW.alike hK9, hD9⟩, hS.F ht⟩) hS.2.2 dX4_join_24
  have oc_3 := zk_nlt rfl (by decide +kernel : (0 : Int32).toInt = 0) c_3
  refine lv_iload_n hx hb dX4_join_16 rfl (lv_at hl 2 rfl) ?_
  refine lv_aload_n hx hb dX4_join_17 rfl (lv_at hl 0 rfl) ?_
  refine va_get (D := (dC, dI)) (ci := 4) (v := .int v0_0) (C := RX4) (T := TX4) (N := 10) hx hb hts zn_X4_join_X4 hown hK hP 0 rfl rfl 0 (by decide) (hts (.fieldLink RX4 36 "ShortEnough$Numbers" "count" "I") zw_X4_join_72) (fun _ h9 => h9) rfl dX4_join_18 ?_
  refine lv_icmp_lt (tgt := 25) hx hb dX4_join_21 (by decide) (fun c_4 => ?_) (fun c_4 => ?_)
  · have oc_4 := zk_lt rfl rfl c_4
    refine lv_aload_n hx hb dX4_join_25 rfl (lv_at hl 0 rfl) ?_
    refine va_get (D := (dC, dI)) (ci := 4) (v := .ref r0_7) (C := RX4) (T := TX4) (N := 10) hx hb hts zn_X4_join_X4 hown hK hP 0 rfl rfl 7 (by decide) (hts (.fieldLink RX4 27 "ShortEnough$Numbers" "joined" "[I") zw_X4_join_73) (fun _ h9 => h9) rfl dX4_join_26 ?_
    refine lv_iload_n hx hb dX4_join_29 rfl (lv_at hl 2 rfl) ?_
    refine va_iald hx hb hK hP 1 0 rfl rfl (vp_in_iff.mpr ⟨by omega, by omega⟩) dX4_join_30 ?_
    refine lv_topi (fun x_5 ex_5 => ?_)
    refine lv_istore_n (lv' := [(3, .int x_5), (0, .ref h0), (1, .int p1), (2, .int p2)]) hx hb dX4_join_31 rfl hl (by decide) rfl (fun ls hl => ?_)
    refine lv_iconst (v := 0) hx hb dX4_join_32 (by decide +kernel) ?_
    refine lv_istore (lv' := [(4, .int 0), (3, .int x_5), (0, .ref h0), (1, .int p1), (2, .int p2)]) hx hb dX4_join_33 hl (by decide) rfl (fun ls hl => ?_)
    have lp35 : ∀ (n : Nat) (g35_r0_7 : Nat → Int32) (y35_4 : Int32) (H : Heap) (locs : List Loc) (ls : Array Slot), (0 : Int) ≤ y35_4.toInt + (0) → (y35_4.toInt : Int) ≤ 0 + (14) → (y35_4.toInt : Int) ≤ v0_0.toInt + (0) → 15 - y35_4.toInt < n → va_P (dC, dI) vwCl [(h0, .inr (4, [.int v0_0, .int v0_1, .ref r0_2, .ref r0_3, .ref r0_4, .ref r0_5, .ref r0_6, .ref r0_7, .ref r0_8, .ref r0_9])), (r0_7, .inl (k1, 14, .inl g35_r0_7))] H → va_D A [(h0, .inr (4, [.int v0_0, .int v0_1, .ref r0_2, .ref r0_3, .ref r0_4, .ref r0_5, .ref r0_6, .ref r0_7, .ref r0_8, .ref r0_9])), (r0_7, .inl (k1, 14, .inl g35_r0_7))] → va_S A s.heap H locs → lv_has ls 5 [(4, .int y35_4), (3, .int x_5), (0, .ref h0), (1, .int p1), (2, .int p2)] → W p l e (headSpec wsX4_join ({ frames := 0, cells := 0, slots := 0, locals := 0 })).room s m ([.ref h0, .int p1, .int p2] : List Value).toArray below meth c H locs 0 0 Q (F0 m 35 ls []) := by
      intro n
      induction n with
      | zero =>
        intro g35_r0_7 y35_4 H locs ls hz35_0 hz35_1 hz35_2  hmeas hP hD hS hl
        exfalso; omega
      | succ n ih35 =>
        intro g35_r0_7 y35_4 H locs ls hz35_0 hz35_1 hz35_2  hmeas hP hD hS hl
        refine lv_iload hx hb dX4_join_35 (lv_at hl 0 rfl) ?_
        refine lv_aload_n hx hb dX4_join_37 rfl (lv_at hl 2 rfl) ?_
        refine va_get (D := (dC, dI)) (ci := 4) (v := .int v0_0) (C := RX4) (T := TX4) (N := 10) hx hb hts zn_X4_join_X4 hown hK hP 0 rfl rfl 0 (by decide) (hts (.fieldLink RX4 36 "ShortEnough$Numbers" "count" "I") zw_X4_join_72) (fun _ h9 => h9) rfl dX4_join_38 ?_
        refine lv_icmp_ge (tgt := 74) hx hb dX4_join_41 (by decide) (fun c_6 => ?_) (fun c_6 => ?_)
        · have oc_6 := zk_le rfl rfl c_6
          have hP9 := hP.sub (ws' := [(h0, .inr (4, [.int v0_0, .int v0_1, .ref r0_2, .ref r0_3, .ref r0_4, .ref r0_5, .ref r0_6, .ref r0_7, .ref r0_8, .ref r0_9])), (r0_7, .inl (k1, 14, .inl g35_r0_7))]) [0, 1] rfl
          have hD9 := hD.sub (ws' := [(h0, .inr (4, [.int v0_0, .int v0_1, .ref r0_2, .ref r0_3, .ref r0_4, .ref r0_5, .ref r0_6, .ref r0_7, .ref r0_8, .ref r0_9])), (r0_7, .inl (k1, 14, .inl g35_r0_7))]) [0, 1] (by decide) rfl
          have hK9 := hK.sub (tys' := [(k1, .int)]) [0] rfl
          rw [← hQ]
          exact W.vret hx hb hr (fun t ht hW => ⟨⟨((fun k => ([] : List Int32).getD k 0), (fun k => ([g35_r0_7] : List (Nat → Int32)).getD k (fun _ => 0)), (fun k => ([] : List (Nat → Int64)).getD k (fun _ => 0))), rfl, trivial, by rw [ht]; exact hP9, va_K.moved hW.alike hK9, hD9⟩, hS.F ht⟩) hS.2.2 dX4_join_74
        have oc_6 := zk_nle rfl rfl c_6
        refine lv_aload_n hx hb dX4_join_44 rfl (lv_at hl 2 rfl) ?_
        refine va_get (D := (dC, dI)) (ci := 4) (v := .ref r0_7) (C := RX4) (T := TX4) (N := 10) hx hb hts zn_X4_join_X4 hown hK hP 0 rfl rfl 7 (by decide) (hts (.fieldLink RX4 27 "ShortEnough$Numbers" "joined" "[I") zw_X4_join_73) (fun _ h9 => h9) rfl dX4_join_45 ?_
        refine lv_iload hx hb dX4_join_48 (lv_at hl 0 rfl) ?_
        refine va_iald hx hb hK hP 1 0 rfl rfl (vp_in_iff.mpr ⟨by omega, by omega⟩) dX4_join_50 ?_
        refine lv_topi (fun x_7 ex_7 => ?_)
        refine lv_iload_n hx hb dX4_join_51 rfl (lv_at hl 1 rfl) ?_
        refine lv_icmp_ne (tgt := 68) hx hb dX4_join_52 (by decide) (fun c_8 => ?_) (fun c_8 => ?_)
        · have oc_8 := zk_ne rfl rfl c_8
          obtain ⟨x_9, ex_9⟩ : ∃ y : Int32, y = y35_4 + 1 := ⟨_, rfl⟩
          refine lv_iinc (v := x_9) (lv' := [(4, .int x_9), (3, .int x_5), (0, .ref h0), (1, .int p1), (2, .int p2)]) hx hb dX4_join_68 hl (k := 0) rfl (by rw [ex_9]; rfl) (by decide) rfl (fun ls hl => ?_)
          have hx_9 := zo_add ex_9 rfl (by decide +kernel : (1 : Int32).toInt = 1) (by omega)
          refine lv_goto (tgt := 35) hx hb dX4_join_71 (by decide) ?_
          exact ih35  g35_r0_7 x_9 H locs ls (by omega) (by omega) (by omega)  (by omega) hP hD hS (lv_sub hl [0, 1, 2, 3, 4] rfl)
        have oc_8 := zk_eq rfl rfl c_8
        refine lv_aload_n hx hb dX4_join_55 rfl (lv_at hl 2 rfl) ?_
        refine va_get (D := (dC, dI)) (ci := 4) (v := .ref r0_7) (C := RX4) (T := TX4) (N := 10) hx hb hts zn_X4_join_X4 hown hK hP 0 rfl rfl 7 (by decide) (hts (.fieldLink RX4 27 "ShortEnough$Numbers" "joined" "[I") zw_X4_join_73) (fun _ h9 => h9) rfl dX4_join_56 ?_
        refine lv_iload hx hb dX4_join_59 (lv_at hl 0 rfl) ?_
        refine lv_aload_n hx hb dX4_join_61 rfl (lv_at hl 2 rfl) ?_
        refine va_get (D := (dC, dI)) (ci := 4) (v := .ref r0_7) (C := RX4) (T := TX4) (N := 10) hx hb hts zn_X4_join_X4 hown hK hP 0 rfl rfl 7 (by decide) (hts (.fieldLink RX4 27 "ShortEnough$Numbers" "joined" "[I") zw_X4_join_73) (fun _ h9 => h9) rfl dX4_join_62 ?_
        refine lv_iload_n hx hb dX4_join_65 rfl (lv_at hl 3 rfl) ?_
        refine va_iald hx hb hK hP 1 0 rfl rfl (vp_in_iff.mpr ⟨by omega, by omega⟩) dX4_join_66 ?_
        refine lv_topi (fun x_10 ex_10 => ?_)
        refine va_iast hx hb hK hP hD hS 1 0 rfl rfl (vp_in_iff.mpr ⟨by omega, by omega⟩) dX4_join_67 (fun H locs hP hD hS => ?_)
        obtain ⟨f_11, ef_11⟩ : ∃ g : Nat → Int32, g = upd g35_r0_7 (y35_4 : Int32).toNatClampNeg x_10 := ⟨_, rfl⟩
        have hP : va_P (dC, dI) vwCl [(h0, .inr (4, [.int v0_0, .int v0_1, .ref r0_2, .ref r0_3, .ref r0_4, .ref r0_5, .ref r0_6, .ref r0_7, .ref r0_8, .ref r0_9])), (r0_7, .inl (k1, 14, .inl f_11))] H := by rw [ef_11]; exact hP
        have hD : va_D A [(h0, .inr (4, [.int v0_0, .int v0_1, .ref r0_2, .ref r0_3, .ref r0_4, .ref r0_5, .ref r0_6, .ref r0_7, .ref r0_8, .ref r0_9])), (r0_7, .inl (k1, 14, .inl f_11))] := by rw [ef_11]; exact hD
        obtain ⟨x_12, ex_12⟩ : ∃ y : Int32, y = y35_4 + 1 := ⟨_, rfl⟩
        refine lv_iinc (v := x_12) (lv' := [(4, .int x_12), (3, .int x_5), (0, .ref h0), (1, .int p1), (2, .int p2)]) hx hb dX4_join_68 hl (k := 0) rfl (by rw [ex_12]; rfl) (by decide) rfl (fun ls hl => ?_)
        have hx_12 := zo_add ex_12 rfl (by decide +kernel : (1 : Int32).toInt = 1) (by omega)
        refine lv_goto (tgt := 35) hx hb dX4_join_71 (by decide) ?_
        exact ih35  f_11 x_12 H locs ls (by omega) (by omega) (by omega)  (by omega) hP hD hS (lv_sub hl [0, 1, 2, 3, 4] rfl)
    have kk0 : (0 : Int32).toInt = 0 := (by decide +kernel)
    exact lp35 ((15 - (0 : Int32).toInt).toNat + 1) f1 0 s.heap [] ls (by omega) (by omega) (by omega)  (by omega) hP hD hS (lv_sub hl [0, 1, 2, 3, 4] rfl)
  have oc_4 := zk_nlt rfl rfl c_4
  have hP9 := hP.sub (ws' := [(h0, .inr (4, [.int v0_0, .int v0_1, .ref r0_2, .ref r0_3, .ref r0_4, .ref r0_5, .ref r0_6, .ref r0_7, .ref r0_8, .ref r0_9])), (r0_7, .inl (k1, 14, .inl f1))]) [0, 1] rfl
  have hD9 := hD.sub (ws' := [(h0, .inr (4, [.int v0_0, .int v0_1, .ref r0_2, .ref r0_3, .ref r0_4, .ref r0_5, .ref r0_6, .ref r0_7, .ref r0_8, .ref r0_9])), (r0_7, .inl (k1, 14, .inl f1))]) [0, 1] (by decide) rfl
  have hK9 := hK.sub (tys' := [(k1, .int)]) [0] rfl
  rw [← hQ]
  exact W.vret hx hb hr (fun t ht hW => ⟨⟨((fun k => ([] : List Int32).getD k 0), (fun k => ([f1] : List (Nat → Int32)).getD k (fun _ => 0)), (fun k => ([] : List (Nat → Int64)).getD k (fun _ => 0))), rfl, trivial, by rw [ht]; exact hP9, va_K.moved hW.alike hK9, hD9⟩, hS.F ht⟩) hS.2.2 dX4_join_24
set_option maxHeartbeats 4000000 in
set_option maxRecDepth 100000 in
theorem zs_X4_prepare (l : Launch) (dC : Nat → ClassId) (dI : Nat → Nat → Nat) (h0 : Nat) (p1 : Int32) (p2 : Int32) (p3 : Int32) (v0_0 : Int32) (v0_1 : Int32) (r0_2 : Nat) (r0_3 : Nat) (r0_4 : Nat) (r0_5 : Nat) (r0_6 : Nat) (r0_7 : Nat) (r0_8 : Nat) (r0_9 : Nat) (k1 : Nat) (f1 : Nat → Int32) (k2 : Nat) (f2 : Nat → Int32) (hq_v0_0 : (0 : Int) ≤ v0_0.toInt ∧ v0_0.toInt ≤ 14) (sz : Nat) : Met l yX4_prepare wsX4_prepare ({ frames := 0, cells := 0, slots := 0, locals := 0 }) (va_Pc [.ref h0, .int p1, .int p2, .int p3] (fun U => U.heap.size = sz ∧ va_P (dC, dI) vwCl [(h0, .inr (4, [.int v0_0, .int v0_1, .ref r0_2, .ref r0_3, .ref r0_4, .ref r0_5, .ref r0_6, .ref r0_7, .ref r0_8, .ref r0_9])), (r0_8, .inl (k1, 28, .inl f1)), (r0_9, .inl (k2, 28, .inl f2))] U.heap ∧ va_K (dC, dI) vwCl [(k1, .int), (k2, .int)] U ∧ va_D (fun _ => True) [(h0, .inr (4, [.int v0_0, .int v0_1, .ref r0_2, .ref r0_3, .ref r0_4, .ref r0_5, .ref r0_6, .ref r0_7, .ref r0_8, .ref r0_9])), (r0_8, .inl (k1, 28, .inl f1)), (r0_9, .inl (k2, 28, .inl f2))])) (va_Qv (fun (u : zV) => True) (fun u t => va_P (dC, dI) vwCl [(h0, .inr (4, [.int v0_0, .int v0_1, .ref r0_2, .ref r0_3, .ref r0_4, .ref r0_5, .ref r0_6, .ref r0_7, .ref r0_8, .ref r0_9])), (r0_8, .inl (k1, 28, .inl (u.2.1 0))), (r0_9, .inl (k2, 28, .inl (u.2.1 1)))] t.heap ∧ va_K (dC, dI) vwCl [(k1, .int), (k2, .int)] t ∧ va_D (va_A [(h0, .inr (4, [.int v0_0, .int v0_1, .ref r0_2, .ref r0_3, .ref r0_4, .ref r0_5, .ref r0_6, .ref r0_7, .ref r0_8, .ref r0_9])), (r0_8, .inl (k1, 28, .inl f1)), (r0_9, .inl (k2, 28, .inl f2))] sz) [(h0, .inr (4, [.int v0_0, .int v0_1, .ref r0_2, .ref r0_3, .ref r0_4, .ref r0_5, .ref r0_6, .ref r0_7, .ref r0_8, .ref r0_9])), (r0_8, .inl (k1, 28, .inl (u.2.1 0))), (r0_9, .inl (k2, 28, .inl (u.2.1 1)))]) (va_A [(h0, .inr (4, [.int v0_0, .int v0_1, .ref r0_2, .ref r0_3, .ref r0_4, .ref r0_5, .ref r0_6, .ref r0_7, .ref r0_8, .ref r0_9])), (r0_8, .inl (k1, 28, .inl f1)), (r0_9, .inl (k2, 28, .inl f2))] sz)) 0 0 (va_A [(h0, .inr (4, [.int v0_0, .int v0_1, .ref r0_2, .ref r0_3, .ref r0_4, .ref r0_5, .ref r0_6, .ref r0_7, .ref r0_8, .ref r0_9])), (r0_8, .inl (k1, 28, .inl f1)), (r0_9, .inl (k2, 28, .inl f2))] sz) := by
  refine Met.ofW (cc := cX4_prepare) (maxL := 4) (ret := none) (by decide +kernel) rfl ?_
  intro p e s m args below meth c s₁ B hml hv
  obtain ⟨rfl, hsz, hP, hK, hD0⟩ := hv
  have hx := B.exec
  have hb := B.bytes
  have hr := B.returns
  have hts := atoms_spec (ws := wsX4_prepare) B.pre
  have hown : s.vm.findClass RX4 = some m.cls := findClass_of_methodNamed B.named
  have hlocks := B.notSynchronized
  subst hsz
  have hD := hD0.self (sz := s.heap.size)
  generalize hAe : va_A [(h0, .inr (4, [.int v0_0, .int v0_1, .ref r0_2, .ref r0_3, .ref r0_4, .ref r0_5, .ref r0_6, .ref r0_7, .ref r0_8, .ref r0_9])), (r0_8, .inl (k1, 28, .inl f1)), (r0_9, .inl (k2, 28, .inl f2))] s.heap.size = A at hD ⊢
  have hA : ∀ q : Nat, s.heap.size ≤ q → A q := fun q h => by rw [← hAe]; exact Or.inr h
  have hS : va_S A s.heap s.heap [] := va_S.rf
  have hP : va_P (dC, dI) vwCl [(h0, .inr (4, [.int v0_0, .int v0_1, .ref r0_2, .ref r0_3, .ref r0_4, .ref r0_5, .ref r0_6, .ref r0_7, .ref r0_8, .ref r0_9])), (r0_8, .inl (k1, 28, .inl f1)), (r0_9, .inl (k2, 28, .inl f2))] s.heap := hP
  have hl := lv_entry ([.ref h0, .int p1, .int p2, .int p3]) (n := 4) (Nat.le_of_ble_eq_true rfl)
  rw [lg_entry_eq]
  generalize (lg_sl ([.ref h0, .int p1, .int p2, .int p3]) ++ List.replicate (4 - (lg_sl ([.ref h0, .int p1, .int p2, .int p3])).length) Slot.unset).toArray = ls at hl ⊢
  have hl : lv_has ls 4 [(0, .ref h0), (1, .int p1), (2, .int p2), (3, .int p3)] := hl
  generalize hQ : MQ below (va_Qv (fun (u : zV) => True) (fun u t => va_P (dC, dI) vwCl [(h0, .inr (4, [.int v0_0, .int v0_1, .ref r0_2, .ref r0_3, .ref r0_4, .ref r0_5, .ref r0_6, .ref r0_7, .ref r0_8, .ref r0_9])), (r0_8, .inl (k1, 28, .inl (u.2.1 0))), (r0_9, .inl (k2, 28, .inl (u.2.1 1)))] t.heap ∧ va_K (dC, dI) vwCl [(k1, .int), (k2, .int)] t ∧ va_D A [(h0, .inr (4, [.int v0_0, .int v0_1, .ref r0_2, .ref r0_3, .ref r0_4, .ref r0_5, .ref r0_6, .ref r0_7, .ref r0_8, .ref r0_9])), (r0_8, .inl (k1, 28, .inl (u.2.1 0))), (r0_9, .inl (k2, 28, .inl (u.2.1 1)))]) A) ([.ref h0, .int p1, .int p2, .int p3] : List Value).toArray s 0 0 A = Q
  refine lv_aload_n hx hb dX4_prepare_0 rfl (lv_at hl 0 rfl) ?_
  refine va_get (D := (dC, dI)) (ci := 4) (v := .int v0_0) (C := RX4) (T := TX4) (N := 10) hx hb hts zn_X4_prepare_X4 hown hK hP 0 rfl rfl 0 (by decide) (hts (.fieldLink RX4 36 "ShortEnough$Numbers" "count" "I") zw_X4_prepare_75) (fun _ h9 => h9) rfl dX4_prepare_1 ?_
  refine lv_bipush (v := 14) hx hb dX4_prepare_4 (by decide +kernel) ?_
  refine lv_icmp_ge (tgt := 46) hx hb dX4_prepare_6 (by decide) (fun c_1 => ?_) (fun c_1 => ?_)
  · have oc_1 := zk_le (by decide +kernel : (14 : Int32).toInt = 14) rfl c_1
    have hP9 := hP.sub (ws' := [(h0, .inr (4, [.int v0_0, .int v0_1, .ref r0_2, .ref r0_3, .ref r0_4, .ref r0_5, .ref r0_6, .ref r0_7, .ref r0_8, .ref r0_9])), (r0_8, .inl (k1, 28, .inl f1)), (r0_9, .inl (k2, 28, .inl f2))]) [0, 1, 2] rfl
    have hD9 := hD.sub (ws' := [(h0, .inr (4, [.int v0_0, .int v0_1, .ref r0_2, .ref r0_3, .ref r0_4, .ref r0_5, .ref r0_6, .ref r0_7, .ref r0_8, .ref r0_9])), (r0_8, .inl (k1, 28, .inl f1)), (r0_9, .inl (k2, 28, .inl f2))]) [0, 1, 2] (by decide) rfl
    have hK9 := hK.sub (tys' := [(k1, .int), (k2, .int)]) [0, 1] rfl
    rw [← hQ]
    exact W.vret hx hb hr (fun t ht hW => ⟨⟨((fun k => ([] : List Int32).getD k 0), (fun k => ([f1, f2] : List (Nat → Int32)).getD k (fun _ => 0)), (fun k => ([] : List (Nat → Int64)).getD k (fun _ => 0))), rfl, trivial, by rw [ht]; exact hP9, va_K.moved hW.alike hK9, hD9⟩, hS.F ht⟩) hS.2.2 dX4_prepare_46
  have oc_1 := zk_nle (by decide +kernel : (14 : Int32).toInt = 14) rfl c_1
  refine lv_iload_n hx hb dX4_prepare_9 rfl (lv_at hl 1 rfl) ?_
  have jp18_1 : ∀  (H : Heap) (locs : List Loc) (ls : Array Slot), (0 : Int) ≤ p1.toInt + (0) → (p1.toInt : Int) ≤ 0 + (1) → va_P (dC, dI) vwCl [(h0, .inr (4, [.int v0_0, .int v0_1, .ref r0_2, .ref r0_3, .ref r0_4, .ref r0_5, .ref r0_6, .ref r0_7, .ref r0_8, .ref r0_9])), (r0_8, .inl (k1, 28, .inl f1)), (r0_9, .inl (k2, 28, .inl f2))] H → va_D A [(h0, .inr (4, [.int v0_0, .int v0_1, .ref r0_2, .ref r0_3, .ref r0_4, .ref r0_5, .ref r0_6, .ref r0_7, .ref r0_8, .ref r0_9])), (r0_8, .inl (k1, 28, .inl f1)), (r0_9, .inl (k2, 28, .inl f2))] → va_S A s.heap H locs → lv_has ls 4 [(0, .ref h0), (1, .int p1), (2, .int p2), (3, .int p3)] → W p l e (headSpec wsX4_prepare ({ frames := 0, cells := 0, slots := 0, locals := 0 })).room s m ([.ref h0, .int p1, .int p2, .int p3] : List Value).toArray below meth c H locs 0 0 Q (F0 m 18 ls []) := by
    intro H locs ls hj1_0 hj1_1  hP hD hS hl
    refine lv_aload_n hx hb dX4_prepare_18 rfl (lv_at hl 0 rfl) ?_
    refine va_get (D := (dC, dI)) (ci := 4) (v := .ref r0_8) (C := RX4) (T := TX4) (N := 10) hx hb hts zn_X4_prepare_X4 hown hK hP 0 rfl rfl 8 (by decide) (hts (.fieldLink RX4 30 "ShortEnough$Numbers" "made" "[I") zw_X4_prepare_76) (fun _ h9 => h9) rfl dX4_prepare_19 ?_
    refine lv_iconst (v := 2) hx hb dX4_prepare_22 (by decide +kernel) ?_
    refine lv_aload_n hx hb dX4_prepare_23 rfl (lv_at hl 0 rfl) ?_
    refine va_get (D := (dC, dI)) (ci := 4) (v := .int v0_0) (C := RX4) (T := TX4) (N := 10) hx hb hts zn_X4_prepare_X4 hown hK hP 0 rfl rfl 0 (by decide) (hts (.fieldLink RX4 36 "ShortEnough$Numbers" "count" "I") zw_X4_prepare_75) (fun _ h9 => h9) rfl dX4_prepare_24 ?_
    refine lv_imul hx hb dX4_prepare_27 ?_
    refine lv_topi (fun x_2 ex_2 => ?_)
    have hx_2 := zo_mul ex_2 (by decide +kernel : (2 : Int32).toInt = 2) rfl (by omega)
    refine lv_iload_n hx hb dX4_prepare_28 rfl (lv_at hl 1 rfl) ?_
    refine lv_iadd hx hb dX4_prepare_29 ?_
    refine lv_topi (fun x_3 ex_3 => ?_)
    have hx_3 := zo_add ex_3 rfl rfl (by omega)
    refine lv_iload_n hx hb dX4_prepare_30 rfl (lv_at hl 2 rfl) ?_
    refine va_iast hx hb hK hP hD hS 1 0 rfl rfl (vp_in_iff.mpr ⟨by omega, by omega⟩) dX4_prepare_31 (fun H locs hP hD hS => ?_)
    obtain ⟨f_4, ef_4⟩ : ∃ g : Nat → Int32, g = upd f1 (x_3 : Int32).toNatClampNeg p2 := ⟨_, rfl⟩
    have hP : va_P (dC, dI) vwCl [(h0, .inr (4, [.int v0_0, .int v0_1, .ref r0_2, .ref r0_3, .ref r0_4, .ref r0_5, .ref r0_6, .ref r0_7, .ref r0_8, .ref r0_9])), (r0_8, .inl (k1, 28, .inl f_4)), (r0_9, .inl (k2, 28, .inl f2))] H := by rw [ef_4]; exact hP
    have hD : va_D A [(h0, .inr (4, [.int v0_0, .int v0_1, .ref r0_2, .ref r0_3, .ref r0_4, .ref r0_5, .ref r0_6, .ref r0_7, .ref r0_8, .ref r0_9])), (r0_8, .inl (k1, 28, .inl f_4)), (r0_9, .inl (k2, 28, .inl f2))] := by rw [ef_4]; exact hD
    refine lv_aload_n hx hb dX4_prepare_32 rfl (lv_at hl 0 rfl) ?_
    refine va_get (D := (dC, dI)) (ci := 4) (v := .ref r0_9) (C := RX4) (T := TX4) (N := 10) hx hb hts zn_X4_prepare_X4 hown hK hP 0 rfl rfl 9 (by decide) (hts (.fieldLink RX4 33 "ShortEnough$Numbers" "amount" "[I") zw_X4_prepare_77) (fun _ h9 => h9) rfl dX4_prepare_33 ?_
    refine lv_iconst (v := 2) hx hb dX4_prepare_36 (by decide +kernel) ?_
    refine lv_aload_n hx hb dX4_prepare_37 rfl (lv_at hl 0 rfl) ?_
    refine va_get (D := (dC, dI)) (ci := 4) (v := .int v0_0) (C := RX4) (T := TX4) (N := 10) hx hb hts zn_X4_prepare_X4 hown hK hP 0 rfl rfl 0 (by decide) (hts (.fieldLink RX4 36 "ShortEnough$Numbers" "count" "I") zw_X4_prepare_75) (fun _ h9 => h9) rfl dX4_prepare_38 ?_
    refine lv_imul hx hb dX4_prepare_41 ?_
    refine lv_topi (fun x_5 ex_5 => ?_)
    have hx_5 := zo_mul ex_5 (by decide +kernel : (2 : Int32).toInt = 2) rfl (by omega)
    refine lv_iload_n hx hb dX4_prepare_42 rfl (lv_at hl 1 rfl) ?_
    refine lv_iadd hx hb dX4_prepare_43 ?_
    refine lv_topi (fun x_6 ex_6 => ?_)
    have hx_6 := zo_add ex_6 rfl rfl (by omega)
    refine lv_iload_n hx hb dX4_prepare_44 rfl (lv_at hl 3 rfl) ?_
    refine va_iast hx hb hK hP hD hS 2 1 rfl rfl (vp_in_iff.mpr ⟨by omega, by omega⟩) dX4_prepare_45 (fun H locs hP hD hS => ?_)
    obtain ⟨f_7, ef_7⟩ : ∃ g : Nat → Int32, g = upd f2 (x_6 : Int32).toNatClampNeg p3 := ⟨_, rfl⟩
    have hP : va_P (dC, dI) vwCl [(h0, .inr (4, [.int v0_0, .int v0_1, .ref r0_2, .ref r0_3, .ref r0_4, .ref r0_5, .ref r0_6, .ref r0_7, .ref r0_8, .ref r0_9])), (r0_8, .inl (k1, 28, .inl f_4)), (r0_9, .inl (k2, 28, .inl f_7))] H := by rw [ef_7]; exact hP
    have hD : va_D A [(h0, .inr (4, [.int v0_0, .int v0_1, .ref r0_2, .ref r0_3, .ref r0_4, .ref r0_5, .ref r0_6, .ref r0_7, .ref r0_8, .ref r0_9])), (r0_8, .inl (k1, 28, .inl f_4)), (r0_9, .inl (k2, 28, .inl f_7))] := by rw [ef_7]; exact hD
    have hP9 := hP.sub (ws' := [(h0, .inr (4, [.int v0_0, .int v0_1, .ref r0_2, .ref r0_3, .ref r0_4, .ref r0_5, .ref r0_6, .ref r0_7, .ref r0_8, .ref r0_9])), (r0_8, .inl (k1, 28, .inl f_4)), (r0_9, .inl (k2, 28, .inl f_7))]) [0, 1, 2] rfl
    have hD9 := hD.sub (ws' := [(h0, .inr (4, [.int v0_0, .int v0_1, .ref r0_2, .ref r0_3, .ref r0_4, .ref r0_5, .ref r0_6, .ref r0_7, .ref r0_8, .ref r0_9])), (r0_8, .inl (k1, 28, .inl f_4)), (r0_9, .inl (k2, 28, .inl f_7))]) [0, 1, 2] (by decide) rfl
    have hK9 := hK.sub (tys' := [(k1, .int), (k2, .int)]) [0, 1] rfl
    rw [← hQ]
    exact W.vret hx hb hr (fun t ht hW => ⟨⟨((fun k => ([] : List Int32).getD k 0), (fun k => ([f_4, f_7] : List (Nat → Int32)).getD k (fun _ => 0)), (fun k => ([] : List (Nat → Int64)).getD k (fun _ => 0))), rfl, trivial, by rw [ht]; exact hP9, va_K.moved hW.alike hK9, hD9⟩, hS.F ht⟩) hS.2.2 dX4_prepare_46
  refine lv_if_eq (tgt := 18) hx hb dX4_prepare_10 (by decide) (fun c_8 => ?_) (fun c_8 => ?_)
  · have oc_8 := zk_eq rfl (by decide +kernel : (0 : Int32).toInt = 0) c_8
    exact jp18_1   s.heap [] ls (by omega) (by omega)  hP hD hS (lv_sub hl [0, 1, 2, 3] rfl)
  have oc_8 := zk_ne rfl (by decide +kernel : (0 : Int32).toInt = 0) c_8
  refine lv_iload_n hx hb dX4_prepare_13 rfl (lv_at hl 1 rfl) ?_
  refine lv_iconst (v := 1) hx hb dX4_prepare_14 (by decide +kernel) ?_
  refine lv_icmp_ne (tgt := 46) hx hb dX4_prepare_15 (by decide) (fun c_9 => ?_) (fun c_9 => ?_)
  · have oc_9 := zk_ne rfl (by decide +kernel : (1 : Int32).toInt = 1) c_9
    have hP9 := hP.sub (ws' := [(h0, .inr (4, [.int v0_0, .int v0_1, .ref r0_2, .ref r0_3, .ref r0_4, .ref r0_5, .ref r0_6, .ref r0_7, .ref r0_8, .ref r0_9])), (r0_8, .inl (k1, 28, .inl f1)), (r0_9, .inl (k2, 28, .inl f2))]) [0, 1, 2] rfl
    have hD9 := hD.sub (ws' := [(h0, .inr (4, [.int v0_0, .int v0_1, .ref r0_2, .ref r0_3, .ref r0_4, .ref r0_5, .ref r0_6, .ref r0_7, .ref r0_8, .ref r0_9])), (r0_8, .inl (k1, 28, .inl f1)), (r0_9, .inl (k2, 28, .inl f2))]) [0, 1, 2] (by decide) rfl
    have hK9 := hK.sub (tys' := [(k1, .int), (k2, .int)]) [0, 1] rfl
    rw [← hQ]
    exact W.vret hx hb hr (fun t ht hW => ⟨⟨((fun k => ([] : List Int32).getD k 0), (fun k => ([f1, f2] : List (Nat → Int32)).getD k (fun _ => 0)), (fun k => ([] : List (Nat → Int64)).getD k (fun _ => 0))), rfl, trivial, by rw [ht]; exact hP9, va_K.moved hW.alike hK9, hD9⟩, hS.F ht⟩) hS.2.2 dX4_prepare_46
  have oc_9 := zk_eq rfl (by decide +kernel : (1 : Int32).toInt = 1) c_9
  exact jp18_1   s.heap [] ls (by omega) (by omega)  hP hD hS (lv_sub hl [0, 1, 2, 3] rfl)
set_option maxHeartbeats 4000000 in
set_option maxRecDepth 100000 in
theorem zs_X4_letsOf (l : Launch) (dC : Nat → ClassId) (dI : Nat → Nat → Nat) (h0 : Nat) (p1 : Int32) (v0_0 : Int32) (v0_1 : Int32) (r0_2 : Nat) (r0_3 : Nat) (r0_4 : Nat) (r0_5 : Nat) (r0_6 : Nat) (r0_7 : Nat) (r0_8 : Nat) (r0_9 : Nat) (k1 : Nat) (f1 : Nat → Int32) (k2 : Nat) (f2 : Nat → Int32) (hq_p1 : (0 : Int) ≤ p1.toInt ∧ p1.toInt ≤ 1) (hq_v0_0 : (0 : Int) ≤ v0_0.toInt ∧ v0_0.toInt ≤ 14) (hp_v0_0 : (0 : Int) ≤ v0_0.toInt ∧ v0_0.toInt ≤ 13) (sz : Nat) : Met l yX4_letsOf wsX4_letsOf ({ frames := 0, cells := 0, slots := 0, locals := 0 }) (va_Pc [.ref h0, .int p1] (fun U => U.heap.size = sz ∧ va_P (dC, dI) vwCl [(h0, .inr (4, [.int v0_0, .int v0_1, .ref r0_2, .ref r0_3, .ref r0_4, .ref r0_5, .ref r0_6, .ref r0_7, .ref r0_8, .ref r0_9])), (r0_8, .inl (k1, 28, .inl f1)), (r0_6, .inl (k2, 14, .inl f2))] U.heap ∧ va_K (dC, dI) vwCl [(k1, .int), (k2, .int)] U ∧ va_D (fun _ => True) [(h0, .inr (4, [.int v0_0, .int v0_1, .ref r0_2, .ref r0_3, .ref r0_4, .ref r0_5, .ref r0_6, .ref r0_7, .ref r0_8, .ref r0_9])), (r0_8, .inl (k1, 28, .inl f1)), (r0_6, .inl (k2, 14, .inl f2))])) (va_Qi (fun (r : Int32) (u : zV) => True) (fun u t => va_P (dC, dI) vwCl [(h0, .inr (4, [.int v0_0, .int v0_1, .ref r0_2, .ref r0_3, .ref r0_4, .ref r0_5, .ref r0_6, .ref r0_7, .ref r0_8, .ref r0_9])), (r0_8, .inl (k1, 28, .inl f1)), (r0_6, .inl (k2, 14, .inl f2))] t.heap ∧ va_K (dC, dI) vwCl [(k1, .int), (k2, .int)] t ∧ va_D (va_A [(h0, .inr (4, [.int v0_0, .int v0_1, .ref r0_2, .ref r0_3, .ref r0_4, .ref r0_5, .ref r0_6, .ref r0_7, .ref r0_8, .ref r0_9])), (r0_8, .inl (k1, 28, .inl f1)), (r0_6, .inl (k2, 14, .inl f2))] sz) [(h0, .inr (4, [.int v0_0, .int v0_1, .ref r0_2, .ref r0_3, .ref r0_4, .ref r0_5, .ref r0_6, .ref r0_7, .ref r0_8, .ref r0_9])), (r0_8, .inl (k1, 28, .inl f1)), (r0_6, .inl (k2, 14, .inl f2))]) (va_A [(h0, .inr (4, [.int v0_0, .int v0_1, .ref r0_2, .ref r0_3, .ref r0_4, .ref r0_5, .ref r0_6, .ref r0_7, .ref r0_8, .ref r0_9])), (r0_8, .inl (k1, 28, .inl f1)), (r0_6, .inl (k2, 14, .inl f2))] sz)) 0 0 (va_A [(h0, .inr (4, [.int v0_0, .int v0_1, .ref r0_2, .ref r0_3, .ref r0_4, .ref r0_5, .ref r0_6, .ref r0_7, .ref r0_8, .ref r0_9])), (r0_8, .inl (k1, 28, .inl f1)), (r0_6, .inl (k2, 14, .inl f2))] sz) := by
  refine Met.ofW (cc := cX4_letsOf) (maxL := 3) (ret := (some .int)) (by decide +kernel) rfl ?_
  intro p e s m args below meth c s₁ B hml hv
  obtain ⟨rfl, hsz, hP, hK, hD0⟩ := hv
  have hx := B.exec
  have hb := B.bytes
  have hr := B.returns
  have hts := atoms_spec (ws := wsX4_letsOf) B.pre
  have hown : s.vm.findClass RX4 = some m.cls := findClass_of_methodNamed B.named
  have hlocks := B.notSynchronized
  subst hsz
  have hD := hD0.self (sz := s.heap.size)
  generalize hAe : va_A [(h0, .inr (4, [.int v0_0, .int v0_1, .ref r0_2, .ref r0_3, .ref r0_4, .ref r0_5, .ref r0_6, .ref r0_7, .ref r0_8, .ref r0_9])), (r0_8, .inl (k1, 28, .inl f1)), (r0_6, .inl (k2, 14, .inl f2))] s.heap.size = A at hD ⊢
  have hA : ∀ q : Nat, s.heap.size ≤ q → A q := fun q h => by rw [← hAe]; exact Or.inr h
  have hS : va_S A s.heap s.heap [] := va_S.rf
  have hP : va_P (dC, dI) vwCl [(h0, .inr (4, [.int v0_0, .int v0_1, .ref r0_2, .ref r0_3, .ref r0_4, .ref r0_5, .ref r0_6, .ref r0_7, .ref r0_8, .ref r0_9])), (r0_8, .inl (k1, 28, .inl f1)), (r0_6, .inl (k2, 14, .inl f2))] s.heap := hP
  have hl := lv_entry ([.ref h0, .int p1]) (n := 3) (Nat.le_of_ble_eq_true rfl)
  rw [lg_entry_eq]
  generalize (lg_sl ([.ref h0, .int p1]) ++ List.replicate (3 - (lg_sl ([.ref h0, .int p1])).length) Slot.unset).toArray = ls at hl ⊢
  have hl : lv_has ls 3 [(0, .ref h0), (1, .int p1)] := hl
  generalize hQ : MQ below (va_Qi (fun (r : Int32) (u : zV) => True) (fun u t => va_P (dC, dI) vwCl [(h0, .inr (4, [.int v0_0, .int v0_1, .ref r0_2, .ref r0_3, .ref r0_4, .ref r0_5, .ref r0_6, .ref r0_7, .ref r0_8, .ref r0_9])), (r0_8, .inl (k1, 28, .inl f1)), (r0_6, .inl (k2, 14, .inl f2))] t.heap ∧ va_K (dC, dI) vwCl [(k1, .int), (k2, .int)] t ∧ va_D A [(h0, .inr (4, [.int v0_0, .int v0_1, .ref r0_2, .ref r0_3, .ref r0_4, .ref r0_5, .ref r0_6, .ref r0_7, .ref r0_8, .ref r0_9])), (r0_8, .inl (k1, 28, .inl f1)), (r0_6, .inl (k2, 14, .inl f2))]) A) ([.ref h0, .int p1] : List Value).toArray s 0 0 A = Q
  refine lv_aload_n hx hb dX4_letsOf_0 rfl (lv_at hl 0 rfl) ?_
  refine va_get (D := (dC, dI)) (ci := 4) (v := .ref r0_8) (C := RX4) (T := TX4) (N := 10) hx hb hts zn_X4_letsOf_X4 hown hK hP 0 rfl rfl 8 (by decide) (hts (.fieldLink RX4 30 "ShortEnough$Numbers" "made" "[I") zw_X4_letsOf_79) (fun _ h9 => h9) rfl dX4_letsOf_1 ?_
  refine lv_iconst (v := 2) hx hb dX4_letsOf_4 (by decide +kernel) ?_
  refine lv_aload_n hx hb dX4_letsOf_5 rfl (lv_at hl 0 rfl) ?_
  refine va_get (D := (dC, dI)) (ci := 4) (v := .int v0_0) (C := RX4) (T := TX4) (N := 10) hx hb hts zn_X4_letsOf_X4 hown hK hP 0 rfl rfl 0 (by decide) (hts (.fieldLink RX4 36 "ShortEnough$Numbers" "count" "I") zw_X4_letsOf_80) (fun _ h9 => h9) rfl dX4_letsOf_6 ?_
  refine lv_imul hx hb dX4_letsOf_9 ?_
  refine lv_topi (fun x_1 ex_1 => ?_)
  have hx_1 := zo_mul ex_1 (by decide +kernel : (2 : Int32).toInt = 2) rfl (by omega)
  refine lv_iload_n hx hb dX4_letsOf_10 rfl (lv_at hl 1 rfl) ?_
  refine lv_iadd hx hb dX4_letsOf_11 ?_
  refine lv_topi (fun x_2 ex_2 => ?_)
  have hx_2 := zo_add ex_2 rfl rfl (by omega)
  refine va_iald hx hb hK hP 1 0 rfl rfl (vp_in_iff.mpr ⟨by omega, by omega⟩) dX4_letsOf_12 ?_
  refine lv_topi (fun x_3 ex_3 => ?_)
  refine lv_istore_n (lv' := [(2, .int x_3), (0, .ref h0), (1, .int p1)]) hx hb dX4_letsOf_13 rfl hl (by decide) rfl (fun ls hl => ?_)
  refine lv_iload_n hx hb dX4_letsOf_14 rfl (lv_at hl 0 rfl) ?_
  refine lv_if_lt (tgt := 35) hx hb dX4_letsOf_15 (by decide) (fun c_4 => ?_) (fun c_4 => ?_)
  · have oc_4 := zk_lt rfl (by decide +kernel : (0 : Int32).toInt = 0) c_4
    refine lv_iconst (v := 0) hx hb dX4_letsOf_35 (by decide +kernel) ?_
    have hP9 := hP.sub (ws' := [(h0, .inr (4, [.int v0_0, .int v0_1, .ref r0_2, .ref r0_3, .ref r0_4, .ref r0_5, .ref r0_6, .ref r0_7, .ref r0_8, .ref r0_9])), (r0_8, .inl (k1, 28, .inl f1)), (r0_6, .inl (k2, 14, .inl f2))]) [0, 1, 2] rfl
    have hD9 := hD.sub (ws' := [(h0, .inr (4, [.int v0_0, .int v0_1, .ref r0_2, .ref r0_3, .ref r0_4, .ref r0_5, .ref r0_6, .ref r0_7, .ref r0_8, .ref r0_9])), (r0_8, .inl (k1, 28, .inl f1)), (r0_6, .inl (k2, 14, .inl f2))]) [0, 1, 2] (by decide) rfl
    have hK9 := hK.sub (tys' := [(k1, .int), (k2, .int)]) [0, 1] rfl
    rw [← hQ]
    exact W.iret (v := 0) hx hb hr (fun t ht hW => ⟨⟨0, ((fun k => ([] : List Int32).getD k 0), (fun k => ([] : List (Nat → Int32)).getD k (fun _ => 0)), (fun k => ([] : List (Nat → Int64)).getD k (fun _ => 0))), rfl, trivial, by rw [ht]; exact hP9, va_K.moved hW.alike hK9, hD9⟩, hS.F ht⟩) hS.2.2 dX4_letsOf_36
  have oc_4 := zk_nlt rfl (by decide +kernel : (0 : Int32).toInt = 0) c_4
  refine lv_iload_n hx hb dX4_letsOf_18 rfl (lv_at hl 0 rfl) ?_
  refine lv_aload_n hx hb dX4_letsOf_19 rfl (lv_at hl 1 rfl) ?_
  refine va_get (D := (dC, dI)) (ci := 4) (v := .int v0_0) (C := RX4) (T := TX4) (N := 10) hx hb hts zn_X4_letsOf_X4 hown hK hP 0 rfl rfl 0 (by decide) (hts (.fieldLink RX4 36 "ShortEnough$Numbers" "count" "I") zw_X4_letsOf_80) (fun _ h9 => h9) rfl dX4_letsOf_20 ?_
  refine lv_icmp_ge (tgt := 35) hx hb dX4_letsOf_23 (by decide) (fun c_5 => ?_) (fun c_5 => ?_)
  · have oc_5 := zk_le rfl rfl c_5
    refine lv_iconst (v := 0) hx hb dX4_letsOf_35 (by decide +kernel) ?_
    have hP9 := hP.sub (ws' := [(h0, .inr (4, [.int v0_0, .int v0_1, .ref r0_2, .ref r0_3, .ref r0_4, .ref r0_5, .ref r0_6, .ref r0_7, .ref r0_8, .ref r0_9])), (r0_8, .inl (k1, 28, .inl f1)), (r0_6, .inl (k2, 14, .inl f2))]) [0, 1, 2] rfl
    have hD9 := hD.sub (ws' := [(h0, .inr (4, [.int v0_0, .int v0_1, .ref r0_2, .ref r0_3, .ref r0_4, .ref r0_5, .ref r0_6, .ref r0_7, .ref r0_8, .ref r0_9])), (r0_8, .inl (k1, 28, .inl f1)), (r0_6, .inl (k2, 14, .inl f2))]) [0, 1, 2] (by decide) rfl
    have hK9 := hK.sub (tys' := [(k1, .int), (k2, .int)]) [0, 1] rfl
    rw [← hQ]
    exact W.iret (v := 0) hx hb hr (fun t ht hW => ⟨⟨0, ((fun k => ([] : List Int32).getD k 0), (fun k => ([] : List (Nat → Int32)).getD k (fun _ => 0)), (fun k => ([] : List (Nat → Int64)).getD k (fun _ => 0))), rfl, trivial, by rw [ht]; exact hP9, va_K.moved hW.alike hK9, hD9⟩, hS.F ht⟩) hS.2.2 dX4_letsOf_36
  have oc_5 := zk_nle rfl rfl c_5
  refine lv_aload_n hx hb dX4_letsOf_26 rfl (lv_at hl 1 rfl) ?_
  refine va_get (D := (dC, dI)) (ci := 4) (v := .ref r0_6) (C := RX4) (T := TX4) (N := 10) hx hb hts zn_X4_letsOf_X4 hown hK hP 0 rfl rfl 6 (by decide) (hts (.fieldLink RX4 24 "ShortEnough$Numbers" "lets" "[I") zw_X4_letsOf_81) (fun _ h9 => h9) rfl dX4_letsOf_27 ?_
  refine lv_iload_n hx hb dX4_letsOf_30 rfl (lv_at hl 0 rfl) ?_
  refine va_iald hx hb hK hP 2 1 rfl rfl (vp_in_iff.mpr ⟨by omega, by omega⟩) dX4_letsOf_31 ?_
  refine lv_topi (fun x_6 ex_6 => ?_)
  refine lv_goto (tgt := 36) hx hb dX4_letsOf_32 (by decide) ?_
  have hP9 := hP.sub (ws' := [(h0, .inr (4, [.int v0_0, .int v0_1, .ref r0_2, .ref r0_3, .ref r0_4, .ref r0_5, .ref r0_6, .ref r0_7, .ref r0_8, .ref r0_9])), (r0_8, .inl (k1, 28, .inl f1)), (r0_6, .inl (k2, 14, .inl f2))]) [0, 1, 2] rfl
  have hD9 := hD.sub (ws' := [(h0, .inr (4, [.int v0_0, .int v0_1, .ref r0_2, .ref r0_3, .ref r0_4, .ref r0_5, .ref r0_6, .ref r0_7, .ref r0_8, .ref r0_9])), (r0_8, .inl (k1, 28, .inl f1)), (r0_6, .inl (k2, 14, .inl f2))]) [0, 1, 2] (by decide) rfl
  have hK9 := hK.sub (tys' := [(k1, .int), (k2, .int)]) [0, 1] rfl
  rw [← hQ]
  exact W.iret (v := x_6) hx hb hr (fun t ht hW => ⟨⟨x_6, ((fun k => ([] : List Int32).getD k 0), (fun k => ([] : List (Nat → Int32)).getD k (fun _ => 0)), (fun k => ([] : List (Nat → Int64)).getD k (fun _ => 0))), rfl, trivial, by rw [ht]; exact hP9, va_K.moved hW.alike hK9, hD9⟩, hS.F ht⟩) hS.2.2 dX4_letsOf_36
set_option maxHeartbeats 4000000 in
set_option maxRecDepth 100000 in
theorem zs_X4_add (l : Launch) (dC : Nat → ClassId) (dI : Nat → Nat → Nat) (h0 : Nat) (p1 : Int32) (p2 : Int32) (v0_0 : Int32) (v0_1 : Int32) (r0_2 : Nat) (r0_3 : Nat) (r0_4 : Nat) (r0_5 : Nat) (r0_6 : Nat) (r0_7 : Nat) (r0_8 : Nat) (r0_9 : Nat) (k1 : Nat) (f1 : Nat → Int32) (k2 : Nat) (f2 : Nat → Int32) (k3 : Nat) (f3 : Nat → Int32) (k4 : Nat) (f4 : Nat → Int32) (k5 : Nat) (f5 : Nat → Int32) (k6 : Nat) (f6 : Nat → Int32) (k7 : Nat) (f7 : Nat → Int32) (hq_v0_0 : (0 : Int) ≤ v0_0.toInt ∧ v0_0.toInt ≤ 14) (sz : Nat) : Met l yX4_add wsX4_add ({ frames := 1, cells := 0, slots := 0, locals := 30 }) (va_Pc [.ref h0, .int p1, .int p2] (fun U => U.heap.size = sz ∧ va_P (dC, dI) vwCl [(h0, .inr (4, [.int v0_0, .int v0_1, .ref r0_2, .ref r0_3, .ref r0_4, .ref r0_5, .ref r0_6, .ref r0_7, .ref r0_8, .ref r0_9])), (r0_2, .inl (k1, 14, .inl f1)), (r0_3, .inl (k2, 14, .inl f2)), (r0_4, .inl (k3, 14, .inl f3)), (r0_5, .inl (k4, 14, .inl f4)), (r0_7, .inl (k5, 14, .inl f5)), (r0_8, .inl (k6, 28, .inl f6)), (r0_6, .inl (k7, 14, .inl f7))] U.heap ∧ va_K (dC, dI) vwCl [(k1, .int), (k2, .int), (k3, .int), (k4, .int), (k5, .int), (k6, .int), (k7, .int)] U ∧ va_D (fun _ => True) [(h0, .inr (4, [.int v0_0, .int v0_1, .ref r0_2, .ref r0_3, .ref r0_4, .ref r0_5, .ref r0_6, .ref r0_7, .ref r0_8, .ref r0_9])), (r0_2, .inl (k1, 14, .inl f1)), (r0_3, .inl (k2, 14, .inl f2)), (r0_4, .inl (k3, 14, .inl f3)), (r0_5, .inl (k4, 14, .inl f4)), (r0_7, .inl (k5, 14, .inl f5)), (r0_8, .inl (k6, 28, .inl f6)), (r0_6, .inl (k7, 14, .inl f7))])) (va_Qv (fun (u : zV) => ((0 : Int) ≤ (u.1 0).toInt ∧ (u.1 0).toInt ≤ 14) ∧ True) (fun u t => va_P (dC, dI) vwCl [(h0, .inr (4, [.int (u.1 0), .int (u.1 1), .ref r0_2, .ref r0_3, .ref r0_4, .ref r0_5, .ref r0_6, .ref r0_7, .ref r0_8, .ref r0_9])), (r0_2, .inl (k1, 14, .inl (u.2.1 0))), (r0_3, .inl (k2, 14, .inl (u.2.1 1))), (r0_4, .inl (k3, 14, .inl (u.2.1 2))), (r0_5, .inl (k4, 14, .inl (u.2.1 3))), (r0_7, .inl (k5, 14, .inl (u.2.1 4))), (r0_8, .inl (k6, 28, .inl f6)), (r0_6, .inl (k7, 14, .inl (u.2.1 5)))] t.heap ∧ va_K (dC, dI) vwCl [(k1, .int), (k2, .int), (k3, .int), (k4, .int), (k5, .int), (k6, .int), (k7, .int)] t ∧ va_D (va_A [(h0, .inr (4, [.int v0_0, .int v0_1, .ref r0_2, .ref r0_3, .ref r0_4, .ref r0_5, .ref r0_6, .ref r0_7, .ref r0_8, .ref r0_9])), (r0_2, .inl (k1, 14, .inl f1)), (r0_3, .inl (k2, 14, .inl f2)), (r0_4, .inl (k3, 14, .inl f3)), (r0_5, .inl (k4, 14, .inl f4)), (r0_7, .inl (k5, 14, .inl f5)), (r0_8, .inl (k6, 28, .inl f6)), (r0_6, .inl (k7, 14, .inl f7))] sz) [(h0, .inr (4, [.int (u.1 0), .int (u.1 1), .ref r0_2, .ref r0_3, .ref r0_4, .ref r0_5, .ref r0_6, .ref r0_7, .ref r0_8, .ref r0_9])), (r0_2, .inl (k1, 14, .inl (u.2.1 0))), (r0_3, .inl (k2, 14, .inl (u.2.1 1))), (r0_4, .inl (k3, 14, .inl (u.2.1 2))), (r0_5, .inl (k4, 14, .inl (u.2.1 3))), (r0_7, .inl (k5, 14, .inl (u.2.1 4))), (r0_8, .inl (k6, 28, .inl f6)), (r0_6, .inl (k7, 14, .inl (u.2.1 5)))]) (va_A [(h0, .inr (4, [.int v0_0, .int v0_1, .ref r0_2, .ref r0_3, .ref r0_4, .ref r0_5, .ref r0_6, .ref r0_7, .ref r0_8, .ref r0_9])), (r0_2, .inl (k1, 14, .inl f1)), (r0_3, .inl (k2, 14, .inl f2)), (r0_4, .inl (k3, 14, .inl f3)), (r0_5, .inl (k4, 14, .inl f4)), (r0_7, .inl (k5, 14, .inl f5)), (r0_8, .inl (k6, 28, .inl f6)), (r0_6, .inl (k7, 14, .inl f7))] sz)) 0 0 (va_A [(h0, .inr (4, [.int v0_0, .int v0_1, .ref r0_2, .ref r0_3, .ref r0_4, .ref r0_5, .ref r0_6, .ref r0_7, .ref r0_8, .ref r0_9])), (r0_2, .inl (k1, 14, .inl f1)), (r0_3, .inl (k2, 14, .inl f2)), (r0_4, .inl (k3, 14, .inl f3)), (r0_5, .inl (k4, 14, .inl f4)), (r0_7, .inl (k5, 14, .inl f5)), (r0_8, .inl (k6, 28, .inl f6)), (r0_6, .inl (k7, 14, .inl f7))] sz) := by
  refine Met.ofW (cc := cX4_add) (maxL := 3) (ret := none) (by decide +kernel) rfl ?_
  intro p e s m args below meth c s₁ B hml hv
  obtain ⟨rfl, hsz, hP, hK, hD0⟩ := hv
  have hx := B.exec
  have hb := B.bytes
  have hr := B.returns
  have hts := atoms_spec (ws := wsX4_add) B.pre
  have hown : s.vm.findClass RX4 = some m.cls := findClass_of_methodNamed B.named
  have hlocks := B.notSynchronized
  subst hsz
  have hD := hD0.self (sz := s.heap.size)
  generalize hAe : va_A [(h0, .inr (4, [.int v0_0, .int v0_1, .ref r0_2, .ref r0_3, .ref r0_4, .ref r0_5, .ref r0_6, .ref r0_7, .ref r0_8, .ref r0_9])), (r0_2, .inl (k1, 14, .inl f1)), (r0_3, .inl (k2, 14, .inl f2)), (r0_4, .inl (k3, 14, .inl f3)), (r0_5, .inl (k4, 14, .inl f4)), (r0_7, .inl (k5, 14, .inl f5)), (r0_8, .inl (k6, 28, .inl f6)), (r0_6, .inl (k7, 14, .inl f7))] s.heap.size = A at hD ⊢
  have hA : ∀ q : Nat, s.heap.size ≤ q → A q := fun q h => by rw [← hAe]; exact Or.inr h
  have hS : va_S A s.heap s.heap [] := va_S.rf
  have hP : va_P (dC, dI) vwCl [(h0, .inr (4, [.int v0_0, .int v0_1, .ref r0_2, .ref r0_3, .ref r0_4, .ref r0_5, .ref r0_6, .ref r0_7, .ref r0_8, .ref r0_9])), (r0_2, .inl (k1, 14, .inl f1)), (r0_3, .inl (k2, 14, .inl f2)), (r0_4, .inl (k3, 14, .inl f3)), (r0_5, .inl (k4, 14, .inl f4)), (r0_7, .inl (k5, 14, .inl f5)), (r0_8, .inl (k6, 28, .inl f6)), (r0_6, .inl (k7, 14, .inl f7))] s.heap := hP
  have hl := lv_entry ([.ref h0, .int p1, .int p2]) (n := 3) (Nat.le_of_ble_eq_true rfl)
  rw [lg_entry_eq]
  generalize (lg_sl ([.ref h0, .int p1, .int p2]) ++ List.replicate (3 - (lg_sl ([.ref h0, .int p1, .int p2])).length) Slot.unset).toArray = ls at hl ⊢
  have hl : lv_has ls 3 [(0, .ref h0), (1, .int p1), (2, .int p2)] := hl
  generalize hQ : MQ below (va_Qv (fun (u : zV) => ((0 : Int) ≤ (u.1 0).toInt ∧ (u.1 0).toInt ≤ 14) ∧ True) (fun u t => va_P (dC, dI) vwCl [(h0, .inr (4, [.int (u.1 0), .int (u.1 1), .ref r0_2, .ref r0_3, .ref r0_4, .ref r0_5, .ref r0_6, .ref r0_7, .ref r0_8, .ref r0_9])), (r0_2, .inl (k1, 14, .inl (u.2.1 0))), (r0_3, .inl (k2, 14, .inl (u.2.1 1))), (r0_4, .inl (k3, 14, .inl (u.2.1 2))), (r0_5, .inl (k4, 14, .inl (u.2.1 3))), (r0_7, .inl (k5, 14, .inl (u.2.1 4))), (r0_8, .inl (k6, 28, .inl f6)), (r0_6, .inl (k7, 14, .inl (u.2.1 5)))] t.heap ∧ va_K (dC, dI) vwCl [(k1, .int), (k2, .int), (k3, .int), (k4, .int), (k5, .int), (k6, .int), (k7, .int)] t ∧ va_D A [(h0, .inr (4, [.int (u.1 0), .int (u.1 1), .ref r0_2, .ref r0_3, .ref r0_4, .ref r0_5, .ref r0_6, .ref r0_7, .ref r0_8, .ref r0_9])), (r0_2, .inl (k1, 14, .inl (u.2.1 0))), (r0_3, .inl (k2, 14, .inl (u.2.1 1))), (r0_4, .inl (k3, 14, .inl (u.2.1 2))), (r0_5, .inl (k4, 14, .inl (u.2.1 3))), (r0_7, .inl (k5, 14, .inl (u.2.1 4))), (r0_8, .inl (k6, 28, .inl f6)), (r0_6, .inl (k7, 14, .inl (u.2.1 5)))]) A) ([.ref h0, .int p1, .int p2] : List Value).toArray s 0 0 A = Q
  refine lv_aload_n hx hb dX4_add_0 rfl (lv_at hl 0 rfl) ?_
  refine va_get (D := (dC, dI)) (ci := 4) (v := .int v0_0) (C := RX4) (T := TX4) (N := 10) hx hb hts zn_X4_add_X4 hown hK hP 0 rfl rfl 0 (by decide) (hts (.fieldLink RX4 36 "ShortEnough$Numbers" "count" "I") zw_X4_add_83) (fun _ h9 => h9) rfl dX4_add_1 ?_
  refine lv_bipush (v := 14) hx hb dX4_add_4 (by decide +kernel) ?_
  refine lv_icmp_lt (tgt := 10) hx hb dX4_add_6 (by decide) (fun c_1 => ?_) (fun c_1 => ?_)
  · have oc_1 := zk_lt rfl (by decide +kernel : (14 : Int32).toInt = 14) c_1
    refine lv_aload_n hx hb dX4_add_10 rfl (lv_at hl 0 rfl) ?_
    refine va_get (D := (dC, dI)) (ci := 4) (v := .ref r0_2) (C := RX4) (T := TX4) (N := 10) hx hb hts zn_X4_add_X4 hown hK hP 0 rfl rfl 2 (by decide) (hts (.fieldLink RX4 9 "ShortEnough$Numbers" "name" "[I") zw_X4_add_84) (fun _ h9 => h9) rfl dX4_add_11 ?_
    refine lv_aload_n hx hb dX4_add_14 rfl (lv_at hl 0 rfl) ?_
    refine va_get (D := (dC, dI)) (ci := 4) (v := .int v0_0) (C := RX4) (T := TX4) (N := 10) hx hb hts zn_X4_add_X4 hown hK hP 0 rfl rfl 0 (by decide) (hts (.fieldLink RX4 36 "ShortEnough$Numbers" "count" "I") zw_X4_add_83) (fun _ h9 => h9) rfl dX4_add_15 ?_
    refine lv_iload_n hx hb dX4_add_18 rfl (lv_at hl 1 rfl) ?_
    refine va_iast hx hb hK hP hD hS 1 0 rfl rfl (vp_in_iff.mpr ⟨by omega, by omega⟩) dX4_add_19 (fun H locs hP hD hS => ?_)
    obtain ⟨f_2, ef_2⟩ : ∃ g : Nat → Int32, g = upd f1 (v0_0 : Int32).toNatClampNeg p1 := ⟨_, rfl⟩
    have hP : va_P (dC, dI) vwCl [(h0, .inr (4, [.int v0_0, .int v0_1, .ref r0_2, .ref r0_3, .ref r0_4, .ref r0_5, .ref r0_6, .ref r0_7, .ref r0_8, .ref r0_9])), (r0_2, .inl (k1, 14, .inl f_2)), (r0_3, .inl (k2, 14, .inl f2)), (r0_4, .inl (k3, 14, .inl f3)), (r0_5, .inl (k4, 14, .inl f4)), (r0_7, .inl (k5, 14, .inl f5)), (r0_8, .inl (k6, 28, .inl f6)), (r0_6, .inl (k7, 14, .inl f7))] H := by rw [ef_2]; exact hP
    have hD : va_D A [(h0, .inr (4, [.int v0_0, .int v0_1, .ref r0_2, .ref r0_3, .ref r0_4, .ref r0_5, .ref r0_6, .ref r0_7, .ref r0_8, .ref r0_9])), (r0_2, .inl (k1, 14, .inl f_2)), (r0_3, .inl (k2, 14, .inl f2)), (r0_4, .inl (k3, 14, .inl f3)), (r0_5, .inl (k4, 14, .inl f4)), (r0_7, .inl (k5, 14, .inl f5)), (r0_8, .inl (k6, 28, .inl f6)), (r0_6, .inl (k7, 14, .inl f7))] := by rw [ef_2]; exact hD
    refine lv_aload_n hx hb dX4_add_20 rfl (lv_at hl 0 rfl) ?_
    refine va_get (D := (dC, dI)) (ci := 4) (v := .ref r0_3) (C := RX4) (T := TX4) (N := 10) hx hb hts zn_X4_add_X4 hown hK hP 0 rfl rfl 3 (by decide) (hts (.fieldLink RX4 15 "ShortEnough$Numbers" "op" "[I") zw_X4_add_85) (fun _ h9 => h9) rfl dX4_add_21 ?_
    refine lv_aload_n hx hb dX4_add_24 rfl (lv_at hl 0 rfl) ?_
    refine va_get (D := (dC, dI)) (ci := 4) (v := .int v0_0) (C := RX4) (T := TX4) (N := 10) hx hb hts zn_X4_add_X4 hown hK hP 0 rfl rfl 0 (by decide) (hts (.fieldLink RX4 36 "ShortEnough$Numbers" "count" "I") zw_X4_add_83) (fun _ h9 => h9) rfl dX4_add_25 ?_
    refine lv_iload_n hx hb dX4_add_28 rfl (lv_at hl 2 rfl) ?_
    refine va_iast hx hb hK hP hD hS 2 1 rfl rfl (vp_in_iff.mpr ⟨by omega, by omega⟩) dX4_add_29 (fun H locs hP hD hS => ?_)
    obtain ⟨f_3, ef_3⟩ : ∃ g : Nat → Int32, g = upd f2 (v0_0 : Int32).toNatClampNeg p2 := ⟨_, rfl⟩
    have hP : va_P (dC, dI) vwCl [(h0, .inr (4, [.int v0_0, .int v0_1, .ref r0_2, .ref r0_3, .ref r0_4, .ref r0_5, .ref r0_6, .ref r0_7, .ref r0_8, .ref r0_9])), (r0_2, .inl (k1, 14, .inl f_2)), (r0_3, .inl (k2, 14, .inl f_3)), (r0_4, .inl (k3, 14, .inl f3)), (r0_5, .inl (k4, 14, .inl f4)), (r0_7, .inl (k5, 14, .inl f5)), (r0_8, .inl (k6, 28, .inl f6)), (r0_6, .inl (k7, 14, .inl f7))] H := by rw [ef_3]; exact hP
    have hD : va_D A [(h0, .inr (4, [.int v0_0, .int v0_1, .ref r0_2, .ref r0_3, .ref r0_4, .ref r0_5, .ref r0_6, .ref r0_7, .ref r0_8, .ref r0_9])), (r0_2, .inl (k1, 14, .inl f_2)), (r0_3, .inl (k2, 14, .inl f_3)), (r0_4, .inl (k3, 14, .inl f3)), (r0_5, .inl (k4, 14, .inl f4)), (r0_7, .inl (k5, 14, .inl f5)), (r0_8, .inl (k6, 28, .inl f6)), (r0_6, .inl (k7, 14, .inl f7))] := by rw [ef_3]; exact hD
    refine lv_aload_n hx hb dX4_add_30 rfl (lv_at hl 0 rfl) ?_
    refine va_get (D := (dC, dI)) (ci := 4) (v := .ref r0_4) (C := RX4) (T := TX4) (N := 10) hx hb hts zn_X4_add_X4 hown hK hP 0 rfl rfl 4 (by decide) (hts (.fieldLink RX4 18 "ShortEnough$Numbers" "fixedAs" "[I") zw_X4_add_86) (fun _ h9 => h9) rfl dX4_add_31 ?_
    refine lv_aload_n hx hb dX4_add_34 rfl (lv_at hl 0 rfl) ?_
    refine va_get (D := (dC, dI)) (ci := 4) (v := .int v0_0) (C := RX4) (T := TX4) (N := 10) hx hb hts zn_X4_add_X4 hown hK hP 0 rfl rfl 0 (by decide) (hts (.fieldLink RX4 36 "ShortEnough$Numbers" "count" "I") zw_X4_add_83) (fun _ h9 => h9) rfl dX4_add_35 ?_
    refine lv_iconst (v := (-1)) hx hb dX4_add_38 (by decide +kernel) ?_
    refine va_iast hx hb hK hP hD hS 3 2 rfl rfl (vp_in_iff.mpr ⟨by omega, by omega⟩) dX4_add_39 (fun H locs hP hD hS => ?_)
    obtain ⟨f_4, ef_4⟩ : ∃ g : Nat → Int32, g = upd f3 (v0_0 : Int32).toNatClampNeg (-1) := ⟨_, rfl⟩
    have hP : va_P (dC, dI) vwCl [(h0, .inr (4, [.int v0_0, .int v0_1, .ref r0_2, .ref r0_3, .ref r0_4, .ref r0_5, .ref r0_6, .ref r0_7, .ref r0_8, .ref r0_9])), (r0_2, .inl (k1, 14, .inl f_2)), (r0_3, .inl (k2, 14, .inl f_3)), (r0_4, .inl (k3, 14, .inl f_4)), (r0_5, .inl (k4, 14, .inl f4)), (r0_7, .inl (k5, 14, .inl f5)), (r0_8, .inl (k6, 28, .inl f6)), (r0_6, .inl (k7, 14, .inl f7))] H := by rw [ef_4]; exact hP
    have hD : va_D A [(h0, .inr (4, [.int v0_0, .int v0_1, .ref r0_2, .ref r0_3, .ref r0_4, .ref r0_5, .ref r0_6, .ref r0_7, .ref r0_8, .ref r0_9])), (r0_2, .inl (k1, 14, .inl f_2)), (r0_3, .inl (k2, 14, .inl f_3)), (r0_4, .inl (k3, 14, .inl f_4)), (r0_5, .inl (k4, 14, .inl f4)), (r0_7, .inl (k5, 14, .inl f5)), (r0_8, .inl (k6, 28, .inl f6)), (r0_6, .inl (k7, 14, .inl f7))] := by rw [ef_4]; exact hD
    refine lv_aload_n hx hb dX4_add_40 rfl (lv_at hl 0 rfl) ?_
    refine va_get (D := (dC, dI)) (ci := 4) (v := .ref r0_5) (C := RX4) (T := TX4) (N := 10) hx hb hts zn_X4_add_X4 hown hK hP 0 rfl rfl 5 (by decide) (hts (.fieldLink RX4 21 "ShortEnough$Numbers" "allowed" "[I") zw_X4_add_87) (fun _ h9 => h9) rfl dX4_add_41 ?_
    refine lv_aload_n hx hb dX4_add_44 rfl (lv_at hl 0 rfl) ?_
    refine va_get (D := (dC, dI)) (ci := 4) (v := .int v0_0) (C := RX4) (T := TX4) (N := 10) hx hb hts zn_X4_add_X4 hown hK hP 0 rfl rfl 0 (by decide) (hts (.fieldLink RX4 36 "ShortEnough$Numbers" "count" "I") zw_X4_add_83) (fun _ h9 => h9) rfl dX4_add_45 ?_
    refine lv_iconst (v := (-1)) hx hb dX4_add_48 (by decide +kernel) ?_
    refine va_iast hx hb hK hP hD hS 4 3 rfl rfl (vp_in_iff.mpr ⟨by omega, by omega⟩) dX4_add_49 (fun H locs hP hD hS => ?_)
    obtain ⟨f_5, ef_5⟩ : ∃ g : Nat → Int32, g = upd f4 (v0_0 : Int32).toNatClampNeg (-1) := ⟨_, rfl⟩
    have hP : va_P (dC, dI) vwCl [(h0, .inr (4, [.int v0_0, .int v0_1, .ref r0_2, .ref r0_3, .ref r0_4, .ref r0_5, .ref r0_6, .ref r0_7, .ref r0_8, .ref r0_9])), (r0_2, .inl (k1, 14, .inl f_2)), (r0_3, .inl (k2, 14, .inl f_3)), (r0_4, .inl (k3, 14, .inl f_4)), (r0_5, .inl (k4, 14, .inl f_5)), (r0_7, .inl (k5, 14, .inl f5)), (r0_8, .inl (k6, 28, .inl f6)), (r0_6, .inl (k7, 14, .inl f7))] H := by rw [ef_5]; exact hP
    have hD : va_D A [(h0, .inr (4, [.int v0_0, .int v0_1, .ref r0_2, .ref r0_3, .ref r0_4, .ref r0_5, .ref r0_6, .ref r0_7, .ref r0_8, .ref r0_9])), (r0_2, .inl (k1, 14, .inl f_2)), (r0_3, .inl (k2, 14, .inl f_3)), (r0_4, .inl (k3, 14, .inl f_4)), (r0_5, .inl (k4, 14, .inl f_5)), (r0_7, .inl (k5, 14, .inl f5)), (r0_8, .inl (k6, 28, .inl f6)), (r0_6, .inl (k7, 14, .inl f7))] := by rw [ef_5]; exact hD
    refine lv_aload_n hx hb dX4_add_50 rfl (lv_at hl 0 rfl) ?_
    refine va_get (D := (dC, dI)) (ci := 4) (v := .ref r0_7) (C := RX4) (T := TX4) (N := 10) hx hb hts zn_X4_add_X4 hown hK hP 0 rfl rfl 7 (by decide) (hts (.fieldLink RX4 27 "ShortEnough$Numbers" "joined" "[I") zw_X4_add_88) (fun _ h9 => h9) rfl dX4_add_51 ?_
    refine lv_aload_n hx hb dX4_add_54 rfl (lv_at hl 0 rfl) ?_
    refine va_get (D := (dC, dI)) (ci := 4) (v := .int v0_0) (C := RX4) (T := TX4) (N := 10) hx hb hts zn_X4_add_X4 hown hK hP 0 rfl rfl 0 (by decide) (hts (.fieldLink RX4 36 "ShortEnough$Numbers" "count" "I") zw_X4_add_83) (fun _ h9 => h9) rfl dX4_add_55 ?_
    refine lv_aload_n hx hb dX4_add_58 rfl (lv_at hl 0 rfl) ?_
    refine va_get (D := (dC, dI)) (ci := 4) (v := .int v0_0) (C := RX4) (T := TX4) (N := 10) hx hb hts zn_X4_add_X4 hown hK hP 0 rfl rfl 0 (by decide) (hts (.fieldLink RX4 36 "ShortEnough$Numbers" "count" "I") zw_X4_add_83) (fun _ h9 => h9) rfl dX4_add_59 ?_
    refine va_iast hx hb hK hP hD hS 5 4 rfl rfl (vp_in_iff.mpr ⟨by omega, by omega⟩) dX4_add_62 (fun H locs hP hD hS => ?_)
    obtain ⟨f_6, ef_6⟩ : ∃ g : Nat → Int32, g = upd f5 (v0_0 : Int32).toNatClampNeg v0_0 := ⟨_, rfl⟩
    have hP : va_P (dC, dI) vwCl [(h0, .inr (4, [.int v0_0, .int v0_1, .ref r0_2, .ref r0_3, .ref r0_4, .ref r0_5, .ref r0_6, .ref r0_7, .ref r0_8, .ref r0_9])), (r0_2, .inl (k1, 14, .inl f_2)), (r0_3, .inl (k2, 14, .inl f_3)), (r0_4, .inl (k3, 14, .inl f_4)), (r0_5, .inl (k4, 14, .inl f_5)), (r0_7, .inl (k5, 14, .inl f_6)), (r0_8, .inl (k6, 28, .inl f6)), (r0_6, .inl (k7, 14, .inl f7))] H := by rw [ef_6]; exact hP
    have hD : va_D A [(h0, .inr (4, [.int v0_0, .int v0_1, .ref r0_2, .ref r0_3, .ref r0_4, .ref r0_5, .ref r0_6, .ref r0_7, .ref r0_8, .ref r0_9])), (r0_2, .inl (k1, 14, .inl f_2)), (r0_3, .inl (k2, 14, .inl f_3)), (r0_4, .inl (k3, 14, .inl f_4)), (r0_5, .inl (k4, 14, .inl f_5)), (r0_7, .inl (k5, 14, .inl f_6)), (r0_8, .inl (k6, 28, .inl f6)), (r0_6, .inl (k7, 14, .inl f7))] := by rw [ef_6]; exact hD
    refine lv_aload_n hx hb dX4_add_63 rfl (lv_at hl 0 rfl) ?_
    refine va_get (D := (dC, dI)) (ci := 4) (v := .ref r0_6) (C := RX4) (T := TX4) (N := 10) hx hb hts zn_X4_add_X4 hown hK hP 0 rfl rfl 6 (by decide) (hts (.fieldLink RX4 24 "ShortEnough$Numbers" "lets" "[I") zw_X4_add_89) (fun _ h9 => h9) rfl dX4_add_64 ?_
    refine lv_aload_n hx hb dX4_add_67 rfl (lv_at hl 0 rfl) ?_
    refine va_get (D := (dC, dI)) (ci := 4) (v := .int v0_0) (C := RX4) (T := TX4) (N := 10) hx hb hts zn_X4_add_X4 hown hK hP 0 rfl rfl 0 (by decide) (hts (.fieldLink RX4 36 "ShortEnough$Numbers" "count" "I") zw_X4_add_83) (fun _ h9 => h9) rfl dX4_add_68 ?_
    refine lv_iload_n hx hb dX4_add_71 rfl (lv_at hl 2 rfl) ?_
    refine lv_if_ne (tgt := 79) hx hb dX4_add_72 (by decide) (fun c_7 => ?_) (fun c_7 => ?_)
    · have oc_7 := zk_ne rfl (by decide +kernel : (0 : Int32).toInt = 0) c_7
      refine lv_iconst (v := 1) hx hb dX4_add_79 (by decide +kernel) ?_
      refine lv_aload_n hx hb dX4_add_80 rfl (lv_at hl 0 rfl) ?_
      refine lv_iconst (v := 0) hx hb dX4_add_81 (by decide +kernel) ?_
      have hPc := hP.sub (ws' := [(h0, .inr (4, [.int v0_0, .int v0_1, .ref r0_2, .ref r0_3, .ref r0_4, .ref r0_5, .ref r0_6, .ref r0_7, .ref r0_8, .ref r0_9])), (r0_8, .inl (k6, 28, .inl f6)), (r0_6, .inl (k7, 14, .inl f7))]) [0, 6, 7] rfl
      have hDc := hD.sub (ws' := [(h0, .inr (4, [.int v0_0, .int v0_1, .ref r0_2, .ref r0_3, .ref r0_4, .ref r0_5, .ref r0_6, .ref r0_7, .ref r0_8, .ref r0_9])), (r0_8, .inl (k6, 28, .inl f6)), (r0_6, .inl (k7, 14, .inl f7))]) [0, 6, 7] (by decide) rfl
      have hKc := hK.sub (tys' := [(k6, .int), (k7, .int)]) [5, 6] rfl
      have hFc := va_free (wc := [(h0, .inr (4, [.int v0_0, .int v0_1, .ref r0_2, .ref r0_3, .ref r0_4, .ref r0_5, .ref r0_6, .ref r0_7, .ref r0_8, .ref r0_9])), (r0_8, .inl (k6, 28, .inl f6)), (r0_6, .inl (k7, 14, .inl f7))]) hD hS hA [0, 6, 7] rfl
      refine va_calli (va_runV (As := [.int 0]) (rest := [.int 1, .int v0_0, .ref r0_6]) ⟨hx, hb, hml, hown, hts⟩ (zs_X4_letsOf l dC dI h0 0 v0_0 v0_1 r0_2 r0_3 r0_4 r0_5 r0_6 r0_7 r0_8 r0_9 k6 f6 k7 f7 (by decide +kernel) (by omega) (by omega) H.size) (cwV 1 hts gX4_add_X4_letsOf rfl rfl rfl (by decide +kernel) ⟨Nat.le_of_ble_eq_true rfl, Nat.le_of_ble_eq_true rfl⟩) ⟨fun a U g mk q => by obtain ⟨q0, q1, qP, qK, qD⟩ := q; exact ⟨q0, q1, qP, va_K.moved (u := U) (U := U.calling g mk a) (Vm.Alike.refl U.vm) qK, qD⟩, va_recv hKc hPc (ci := 4) (q0 := 0) rfl rfl, fun U hU hW => ⟨rfl, by rw [hU], by rw [hU]; exact hPc, va_K.moved hW.alike hKc, hDc.weaken (fun _ _ _ _ => trivial)⟩⟩ rfl rfl hl.1 rfl (lv_room (Nat.le_of_ble_eq_true rfl)) dX4_add_82 ⟨Nat.le_of_ble_eq_true rfl, Nat.le_of_ble_eq_true rfl⟩) hS (fun q _ h => hFc q h) hFc (fun r_8 u_9 t H1 locs ht hvm hw_10 hB hz1 hk1 hS => ?_)
      obtain ⟨hP1, hK1, hD1⟩ := hB
      rw [ht] at hP1
      have hK1 := va_K.moved hvm.symm hK1
      obtain ⟨hP, hD⟩ := va_join (wr := [(r0_2, .inl (k1, 14, .inl f_2)), (r0_3, .inl (k2, 14, .inl f_3)), (r0_4, .inl (k3, 14, .inl f_4)), (r0_5, .inl (k4, 14, .inl f_5)), (r0_7, .inl (k5, 14, .inl f_6))]) (w1 := [(h0, .inr (4, [.int v0_0, .int v0_1, .ref r0_2, .ref r0_3, .ref r0_4, .ref r0_5, .ref r0_6, .ref r0_7, .ref r0_8, .ref r0_9])), (r0_8, .inl (k6, 28, .inl f6)), (r0_6, .inl (k7, 14, .inl f7))]) hP hD [0, 6, 7] [1, 2, 3, 4, 5] rfl rfl (by decide) (by decide) hk1 hFc hP1 hD1
      have hK := hK
      generalize H1 = H at hP hS ⊢
      have hP := hP.sub (ws' := [(h0, .inr (4, [.int v0_0, .int v0_1, .ref r0_2, .ref r0_3, .ref r0_4, .ref r0_5, .ref r0_6, .ref r0_7, .ref r0_8, .ref r0_9])), (r0_2, .inl (k1, 14, .inl f_2)), (r0_3, .inl (k2, 14, .inl f_3)), (r0_4, .inl (k3, 14, .inl f_4)), (r0_5, .inl (k4, 14, .inl f_5)), (r0_7, .inl (k5, 14, .inl f_6)), (r0_8, .inl (k6, 28, .inl f6)), (r0_6, .inl (k7, 14, .inl f7))]) [5, 0, 1, 2, 3, 4, 6, 7] rfl
      have hD := hD.sub (ws' := [(h0, .inr (4, [.int v0_0, .int v0_1, .ref r0_2, .ref r0_3, .ref r0_4, .ref r0_5, .ref r0_6, .ref r0_7, .ref r0_8, .ref r0_9])), (r0_2, .inl (k1, 14, .inl f_2)), (r0_3, .inl (k2, 14, .inl f_3)), (r0_4, .inl (k3, 14, .inl f_4)), (r0_5, .inl (k4, 14, .inl f_5)), (r0_7, .inl (k5, 14, .inl f_6)), (r0_8, .inl (k6, 28, .inl f6)), (r0_6, .inl (k7, 14, .inl f7))]) [5, 0, 1, 2, 3, 4, 6, 7] (by decide) rfl
      have hP : va_P (dC, dI) vwCl [(h0, .inr (4, [.int v0_0, .int v0_1, .ref r0_2, .ref r0_3, .ref r0_4, .ref r0_5, .ref r0_6, .ref r0_7, .ref r0_8, .ref r0_9])), (r0_2, .inl (k1, 14, .inl f_2)), (r0_3, .inl (k2, 14, .inl f_3)), (r0_4, .inl (k3, 14, .inl f_4)), (r0_5, .inl (k4, 14, .inl f_5)), (r0_7, .inl (k5, 14, .inl f_6)), (r0_8, .inl (k6, 28, .inl f6)), (r0_6, .inl (k7, 14, .inl f7))] H := hP
      have hD : va_D A [(h0, .inr (4, [.int v0_0, .int v0_1, .ref r0_2, .ref r0_3, .ref r0_4, .ref r0_5, .ref r0_6, .ref r0_7, .ref r0_8, .ref r0_9])), (r0_2, .inl (k1, 14, .inl f_2)), (r0_3, .inl (k2, 14, .inl f_3)), (r0_4, .inl (k3, 14, .inl f_4)), (r0_5, .inl (k4, 14, .inl f_5)), (r0_7, .inl (k5, 14, .inl f_6)), (r0_8, .inl (k6, 28, .inl f6)), (r0_6, .inl (k7, 14, .inl f7))] := hD
      refine lv_aload_n hx hb dX4_add_85 rfl (lv_at hl 0 rfl) ?_
      refine lv_iconst (v := 1) hx hb dX4_add_86 (by decide +kernel) ?_
      have hPc := hP.sub (ws' := [(h0, .inr (4, [.int v0_0, .int v0_1, .ref r0_2, .ref r0_3, .ref r0_4, .ref r0_5, .ref r0_6, .ref r0_7, .ref r0_8, .ref r0_9])), (r0_8, .inl (k6, 28, .inl f6)), (r0_6, .inl (k7, 14, .inl f7))]) [0, 6, 7] rfl
      have hDc := hD.sub (ws' := [(h0, .inr (4, [.int v0_0, .int v0_1, .ref r0_2, .ref r0_3, .ref r0_4, .ref r0_5, .ref r0_6, .ref r0_7, .ref r0_8, .ref r0_9])), (r0_8, .inl (k6, 28, .inl f6)), (r0_6, .inl (k7, 14, .inl f7))]) [0, 6, 7] (by decide) rfl
      have hKc := hK.sub (tys' := [(k6, .int), (k7, .int)]) [5, 6] rfl
      have hFc := va_free (wc := [(h0, .inr (4, [.int v0_0, .int v0_1, .ref r0_2, .ref r0_3, .ref r0_4, .ref r0_5, .ref r0_6, .ref r0_7, .ref r0_8, .ref r0_9])), (r0_8, .inl (k6, 28, .inl f6)), (r0_6, .inl (k7, 14, .inl f7))]) hD hS hA [0, 6, 7] rfl
      refine va_calli (va_runV (As := [.int 1]) (rest := [.int r_8, .int 1, .int v0_0, .ref r0_6]) ⟨hx, hb, hml, hown, hts⟩ (zs_X4_letsOf l dC dI h0 1 v0_0 v0_1 r0_2 r0_3 r0_4 r0_5 r0_6 r0_7 r0_8 r0_9 k6 f6 k7 f7 (by decide +kernel) (by omega) (by omega) H.size) (cwV 1 hts gX4_add_X4_letsOf rfl rfl rfl (by decide +kernel) ⟨Nat.le_of_ble_eq_true rfl, Nat.le_of_ble_eq_true rfl⟩) ⟨fun a U g mk q => by obtain ⟨q0, q1, qP, qK, qD⟩ := q; exact ⟨q0, q1, qP, va_K.moved (u := U) (U := U.calling g mk a) (Vm.Alike.refl U.vm) qK, qD⟩, va_recv hKc hPc (ci := 4) (q0 := 0) rfl rfl, fun U hU hW => ⟨rfl, by rw [hU], by rw [hU]; exact hPc, va_K.moved hW.alike hKc, hDc.weaken (fun _ _ _ _ => trivial)⟩⟩ rfl rfl hl.1 rfl (lv_room (Nat.le_of_ble_eq_true rfl)) dX4_add_87 ⟨Nat.le_of_ble_eq_true rfl, Nat.le_of_ble_eq_true rfl⟩) hS (fun q _ h => hFc q h) hFc (fun r_11 u_12 t H1 locs ht hvm hw_13 hB hz1 hk1 hS => ?_)
      obtain ⟨hP1, hK1, hD1⟩ := hB
      rw [ht] at hP1
      have hK1 := va_K.moved hvm.symm hK1
      obtain ⟨hP, hD⟩ := va_join (wr := [(r0_2, .inl (k1, 14, .inl f_2)), (r0_3, .inl (k2, 14, .inl f_3)), (r0_4, .inl (k3, 14, .inl f_4)), (r0_5, .inl (k4, 14, .inl f_5)), (r0_7, .inl (k5, 14, .inl f_6))]) (w1 := [(h0, .inr (4, [.int v0_0, .int v0_1, .ref r0_2, .ref r0_3, .ref r0_4, .ref r0_5, .ref r0_6, .ref r0_7, .ref r0_8, .ref r0_9])), (r0_8, .inl (k6, 28, .inl f6)), (r0_6, .inl (k7, 14, .inl f7))]) hP hD [0, 6, 7] [1, 2, 3, 4, 5] rfl rfl (by decide) (by decide) hk1 hFc hP1 hD1
      have hK := hK
      generalize H1 = H at hP hS ⊢
      have hP := hP.sub (ws' := [(h0, .inr (4, [.int v0_0, .int v0_1, .ref r0_2, .ref r0_3, .ref r0_4, .ref r0_5, .ref r0_6, .ref r0_7, .ref r0_8, .ref r0_9])), (r0_2, .inl (k1, 14, .inl f_2)), (r0_3, .inl (k2, 14, .inl f_3)), (r0_4, .inl (k3, 14, .inl f_4)), (r0_5, .inl (k4, 14, .inl f_5)), (r0_7, .inl (k5, 14, .inl f_6)), (r0_8, .inl (k6, 28, .inl f6)), (r0_6, .inl (k7, 14, .inl f7))]) [5, 0, 1, 2, 3, 4, 6, 7] rfl
      have hD := hD.sub (ws' := [(h0, .inr (4, [.int v0_0, .int v0_1, .ref r0_2, .ref r0_3, .ref r0_4, .ref r0_5, .ref r0_6, .ref r0_7, .ref r0_8, .ref r0_9])), (r0_2, .inl (k1, 14, .inl f_2)), (r0_3, .inl (k2, 14, .inl f_3)), (r0_4, .inl (k3, 14, .inl f_4)), (r0_5, .inl (k4, 14, .inl f_5)), (r0_7, .inl (k5, 14, .inl f_6)), (r0_8, .inl (k6, 28, .inl f6)), (r0_6, .inl (k7, 14, .inl f7))]) [5, 0, 1, 2, 3, 4, 6, 7] (by decide) rfl
      have hP : va_P (dC, dI) vwCl [(h0, .inr (4, [.int v0_0, .int v0_1, .ref r0_2, .ref r0_3, .ref r0_4, .ref r0_5, .ref r0_6, .ref r0_7, .ref r0_8, .ref r0_9])), (r0_2, .inl (k1, 14, .inl f_2)), (r0_3, .inl (k2, 14, .inl f_3)), (r0_4, .inl (k3, 14, .inl f_4)), (r0_5, .inl (k4, 14, .inl f_5)), (r0_7, .inl (k5, 14, .inl f_6)), (r0_8, .inl (k6, 28, .inl f6)), (r0_6, .inl (k7, 14, .inl f7))] H := hP
      have hD : va_D A [(h0, .inr (4, [.int v0_0, .int v0_1, .ref r0_2, .ref r0_3, .ref r0_4, .ref r0_5, .ref r0_6, .ref r0_7, .ref r0_8, .ref r0_9])), (r0_2, .inl (k1, 14, .inl f_2)), (r0_3, .inl (k2, 14, .inl f_3)), (r0_4, .inl (k3, 14, .inl f_4)), (r0_5, .inl (k4, 14, .inl f_5)), (r0_7, .inl (k5, 14, .inl f_6)), (r0_8, .inl (k6, 28, .inl f6)), (r0_6, .inl (k7, 14, .inl f7))] := hD
      refine va_mmax hx hb (by rw [hml]; exact hl.1.symm) hown (hts (.methodLink RX4 44 Lib.Math.max.name) zw_X4_add_90) (hts (.static Lib.Math.max.name) zw_X4_add_91) (hts (.initialized "java/lang/Math") zw_X4_add_92) (hts (.code Lib.Math.max.name Lib.Math.max.code 2 (some .int)) zw_X4_add_93) (Nat.le_of_ble_eq_true rfl) (Nat.le_of_ble_eq_true rfl) (Nat.le_of_ble_eq_true rfl) (Nat.le_of_ble_eq_true rfl) dX4_add_90 ?_
      refine lv_topi (fun x_14 ex_14 => ?_)
      have hx_14 := zo_max ex_14 rfl rfl
      refine lv_iadd hx hb dX4_add_93 ?_
      refine lv_topi (fun x_15 ex_15 => ?_)
      refine va_iast hx hb hK hP hD hS 7 6 rfl rfl (vp_in_iff.mpr ⟨by omega, by omega⟩) dX4_add_94 (fun H locs hP hD hS => ?_)
      obtain ⟨f_16, ef_16⟩ : ∃ g : Nat → Int32, g = upd f7 (v0_0 : Int32).toNatClampNeg x_15 := ⟨_, rfl⟩
      have hP : va_P (dC, dI) vwCl [(h0, .inr (4, [.int v0_0, .int v0_1, .ref r0_2, .ref r0_3, .ref r0_4, .ref r0_5, .ref r0_6, .ref r0_7, .ref r0_8, .ref r0_9])), (r0_2, .inl (k1, 14, .inl f_2)), (r0_3, .inl (k2, 14, .inl f_3)), (r0_4, .inl (k3, 14, .inl f_4)), (r0_5, .inl (k4, 14, .inl f_5)), (r0_7, .inl (k5, 14, .inl f_6)), (r0_8, .inl (k6, 28, .inl f6)), (r0_6, .inl (k7, 14, .inl f_16))] H := by rw [ef_16]; exact hP
      have hD : va_D A [(h0, .inr (4, [.int v0_0, .int v0_1, .ref r0_2, .ref r0_3, .ref r0_4, .ref r0_5, .ref r0_6, .ref r0_7, .ref r0_8, .ref r0_9])), (r0_2, .inl (k1, 14, .inl f_2)), (r0_3, .inl (k2, 14, .inl f_3)), (r0_4, .inl (k3, 14, .inl f_4)), (r0_5, .inl (k4, 14, .inl f_5)), (r0_7, .inl (k5, 14, .inl f_6)), (r0_8, .inl (k6, 28, .inl f6)), (r0_6, .inl (k7, 14, .inl f_16))] := by rw [ef_16]; exact hD
      refine lv_aload_n hx hb dX4_add_95 rfl (lv_at hl 0 rfl) ?_
      refine lv_dup hx hb dX4_add_96 rfl ?_
      refine va_get (D := (dC, dI)) (ci := 4) (v := .int v0_1) (C := RX4) (T := TX4) (N := 10) hx hb hts zn_X4_add_X4 hown hK hP 0 rfl rfl 1 (by decide) (hts (.fieldLink RX4 50 "ShortEnough$Numbers" "inputs" "I") zw_X4_add_94) (fun _ h9 => h9) rfl dX4_add_97 ?_
      refine lv_iload_n hx hb dX4_add_100 rfl (lv_at hl 2 rfl) ?_
      refine lv_if_ne (tgt := 108) hx hb dX4_add_101 (by decide) (fun c_17 => ?_) (fun c_17 => ?_)
      · have oc_17 := zk_ne rfl (by decide +kernel : (0 : Int32).toInt = 0) c_17
        refine lv_iconst (v := 0) hx hb dX4_add_108 (by decide +kernel) ?_
        refine lv_iadd hx hb dX4_add_109 ?_
        refine lv_topi (fun x_18 ex_18 => ?_)
        refine va_put (D := (dC, dI)) (ci := 4) (v := .int x_18) (ty := .int) (C := RX4) (T := TX4) (N := 10) hx hb hts zn_X4_add_X4 tyX4 tyX4_ok nmX4 hown hK hP hD hS 0 rfl rfl 1 (by decide) (hts (.fieldLink RX4 50 "ShortEnough$Numbers" "inputs" "I") zw_X4_add_94) (fun _ h9 => h9) rfl (by decide +kernel) rfl rfl (Nat.le_of_ble_eq_true rfl) dX4_add_110 (fun H locs hP hD hS => ?_)
        have hP : va_P (dC, dI) vwCl [(h0, .inr (4, [.int v0_0, .int x_18, .ref r0_2, .ref r0_3, .ref r0_4, .ref r0_5, .ref r0_6, .ref r0_7, .ref r0_8, .ref r0_9])), (r0_2, .inl (k1, 14, .inl f_2)), (r0_3, .inl (k2, 14, .inl f_3)), (r0_4, .inl (k3, 14, .inl f_4)), (r0_5, .inl (k4, 14, .inl f_5)), (r0_7, .inl (k5, 14, .inl f_6)), (r0_8, .inl (k6, 28, .inl f6)), (r0_6, .inl (k7, 14, .inl f_16))] H := hP
        have hD : va_D A [(h0, .inr (4, [.int v0_0, .int x_18, .ref r0_2, .ref r0_3, .ref r0_4, .ref r0_5, .ref r0_6, .ref r0_7, .ref r0_8, .ref r0_9])), (r0_2, .inl (k1, 14, .inl f_2)), (r0_3, .inl (k2, 14, .inl f_3)), (r0_4, .inl (k3, 14, .inl f_4)), (r0_5, .inl (k4, 14, .inl f_5)), (r0_7, .inl (k5, 14, .inl f_6)), (r0_8, .inl (k6, 28, .inl f6)), (r0_6, .inl (k7, 14, .inl f_16))] := hD
        refine lv_aload_n hx hb dX4_add_113 rfl (lv_at hl 0 rfl) ?_
        refine lv_dup hx hb dX4_add_114 rfl ?_
        refine va_get (D := (dC, dI)) (ci := 4) (v := .int v0_0) (C := RX4) (T := TX4) (N := 10) hx hb hts zn_X4_add_X4 hown hK hP 0 rfl rfl 0 (by decide) (hts (.fieldLink RX4 36 "ShortEnough$Numbers" "count" "I") zw_X4_add_83) (fun _ h9 => h9) rfl dX4_add_115 ?_
        refine lv_iconst (v := 1) hx hb dX4_add_118 (by decide +kernel) ?_
        refine lv_iadd hx hb dX4_add_119 ?_
        refine lv_topi (fun x_19 ex_19 => ?_)
        have hx_19 := zo_add ex_19 rfl (by decide +kernel : (1 : Int32).toInt = 1) (by omega)
        refine va_put (D := (dC, dI)) (ci := 4) (v := .int x_19) (ty := .int) (C := RX4) (T := TX4) (N := 10) hx hb hts zn_X4_add_X4 tyX4 tyX4_ok nmX4 hown hK hP hD hS 0 rfl rfl 0 (by decide) (hts (.fieldLink RX4 36 "ShortEnough$Numbers" "count" "I") zw_X4_add_83) (fun _ h9 => h9) rfl (by decide +kernel) rfl rfl (Nat.le_of_ble_eq_true rfl) dX4_add_120 (fun H locs hP hD hS => ?_)
        have hP : va_P (dC, dI) vwCl [(h0, .inr (4, [.int x_19, .int x_18, .ref r0_2, .ref r0_3, .ref r0_4, .ref r0_5, .ref r0_6, .ref r0_7, .ref r0_8, .ref r0_9])), (r0_2, .inl (k1, 14, .inl f_2)), (r0_3, .inl (k2, 14, .inl f_3)), (r0_4, .inl (k3, 14, .inl f_4)), (r0_5, .inl (k4, 14, .inl f_5)), (r0_7, .inl (k5, 14, .inl f_6)), (r0_8, .inl (k6, 28, .inl f6)), (r0_6, .inl (k7, 14, .inl f_16))] H := hP
        have hD : va_D A [(h0, .inr (4, [.int x_19, .int x_18, .ref r0_2, .ref r0_3, .ref r0_4, .ref r0_5, .ref r0_6, .ref r0_7, .ref r0_8, .ref r0_9])), (r0_2, .inl (k1, 14, .inl f_2)), (r0_3, .inl (k2, 14, .inl f_3)), (r0_4, .inl (k3, 14, .inl f_4)), (r0_5, .inl (k4, 14, .inl f_5)), (r0_7, .inl (k5, 14, .inl f_6)), (r0_8, .inl (k6, 28, .inl f6)), (r0_6, .inl (k7, 14, .inl f_16))] := hD
        have hP9 := hP.sub (ws' := [(h0, .inr (4, [.int x_19, .int x_18, .ref r0_2, .ref r0_3, .ref r0_4, .ref r0_5, .ref r0_6, .ref r0_7, .ref r0_8, .ref r0_9])), (r0_2, .inl (k1, 14, .inl f_2)), (r0_3, .inl (k2, 14, .inl f_3)), (r0_4, .inl (k3, 14, .inl f_4)), (r0_5, .inl (k4, 14, .inl f_5)), (r0_7, .inl (k5, 14, .inl f_6)), (r0_8, .inl (k6, 28, .inl f6)), (r0_6, .inl (k7, 14, .inl f_16))]) [0, 1, 2, 3, 4, 5, 6, 7] rfl
        have hD9 := hD.sub (ws' := [(h0, .inr (4, [.int x_19, .int x_18, .ref r0_2, .ref r0_3, .ref r0_4, .ref r0_5, .ref r0_6, .ref r0_7, .ref r0_8, .ref r0_9])), (r0_2, .inl (k1, 14, .inl f_2)), (r0_3, .inl (k2, 14, .inl f_3)), (r0_4, .inl (k3, 14, .inl f_4)), (r0_5, .inl (k4, 14, .inl f_5)), (r0_7, .inl (k5, 14, .inl f_6)), (r0_8, .inl (k6, 28, .inl f6)), (r0_6, .inl (k7, 14, .inl f_16))]) [0, 1, 2, 3, 4, 5, 6, 7] (by decide) rfl
        have hK9 := hK.sub (tys' := [(k1, .int), (k2, .int), (k3, .int), (k4, .int), (k5, .int), (k6, .int), (k7, .int)]) [0, 1, 2, 3, 4, 5, 6] rfl
        rw [← hQ]
        exact W.vret hx hb hr (fun t ht hW => ⟨⟨((fun k => ([x_19, x_18] : List Int32).getD k 0), (fun k => ([f_2, f_3, f_4, f_5, f_6, f_16] : List (Nat → Int32)).getD k (fun _ => 0)), (fun k => ([] : List (Nat → Int64)).getD k (fun _ => 0))), rfl, ⟨(show (0 : Int) ≤ (x_19 : Int32).toInt ∧ (x_19 : Int32).toInt ≤ 14 by omega), trivial⟩, by rw [ht]; exact hP9, va_K.moved hW.alike hK9, hD9⟩, hS.F ht⟩) hS.2.2 dX4_add_123
      have oc_17 := zk_eq rfl (by decide +kernel : (0 : Int32).toInt = 0) c_17
      refine lv_iconst (v := 1) hx hb dX4_add_104 (by decide +kernel) ?_
      refine lv_goto (tgt := 109) hx hb dX4_add_105 (by decide) ?_
      refine lv_iadd hx hb dX4_add_109 ?_
      refine lv_topi (fun x_20 ex_20 => ?_)
      refine va_put (D := (dC, dI)) (ci := 4) (v := .int x_20) (ty := .int) (C := RX4) (T := TX4) (N := 10) hx hb hts zn_X4_add_X4 tyX4 tyX4_ok nmX4 hown hK hP hD hS 0 rfl rfl 1 (by decide) (hts (.fieldLink RX4 50 "ShortEnough$Numbers" "inputs" "I") zw_X4_add_94) (fun _ h9 => h9) rfl (by decide +kernel) rfl rfl (Nat.le_of_ble_eq_true rfl) dX4_add_110 (fun H locs hP hD hS => ?_)
      have hP : va_P (dC, dI) vwCl [(h0, .inr (4, [.int v0_0, .int x_20, .ref r0_2, .ref r0_3, .ref r0_4, .ref r0_5, .ref r0_6, .ref r0_7, .ref r0_8, .ref r0_9])), (r0_2, .inl (k1, 14, .inl f_2)), (r0_3, .inl (k2, 14, .inl f_3)), (r0_4, .inl (k3, 14, .inl f_4)), (r0_5, .inl (k4, 14, .inl f_5)), (r0_7, .inl (k5, 14, .inl f_6)), (r0_8, .inl (k6, 28, .inl f6)), (r0_6, .inl (k7, 14, .inl f_16))] H := hP
      have hD : va_D A [(h0, .inr (4, [.int v0_0, .int x_20, .ref r0_2, .ref r0_3, .ref r0_4, .ref r0_5, .ref r0_6, .ref r0_7, .ref r0_8, .ref r0_9])), (r0_2, .inl (k1, 14, .inl f_2)), (r0_3, .inl (k2, 14, .inl f_3)), (r0_4, .inl (k3, 14, .inl f_4)), (r0_5, .inl (k4, 14, .inl f_5)), (r0_7, .inl (k5, 14, .inl f_6)), (r0_8, .inl (k6, 28, .inl f6)), (r0_6, .inl (k7, 14, .inl f_16))] := hD
      refine lv_aload_n hx hb dX4_add_113 rfl (lv_at hl 0 rfl) ?_
      refine lv_dup hx hb dX4_add_114 rfl ?_
      refine va_get (D := (dC, dI)) (ci := 4) (v := .int v0_0) (C := RX4) (T := TX4) (N := 10) hx hb hts zn_X4_add_X4 hown hK hP 0 rfl rfl 0 (by decide) (hts (.fieldLink RX4 36 "ShortEnough$Numbers" "count" "I") zw_X4_add_83) (fun _ h9 => h9) rfl dX4_add_115 ?_
      refine lv_iconst (v := 1) hx hb dX4_add_118 (by decide +kernel) ?_
      refine lv_iadd hx hb dX4_add_119 ?_
      refine lv_topi (fun x_21 ex_21 => ?_)
      have hx_21 := zo_add ex_21 rfl (by decide +kernel : (1 : Int32).toInt = 1) (by omega)
      refine va_put (D := (dC, dI)) (ci := 4) (v := .int x_21) (ty := .int) (C := RX4) (T := TX4) (N := 10) hx hb hts zn_X4_add_X4 tyX4 tyX4_ok nmX4 hown hK hP hD hS 0 rfl rfl 0 (by decide) (hts (.fieldLink RX4 36 "ShortEnough$Numbers" "count" "I") zw_X4_add_83) (fun _ h9 => h9) rfl (by decide +kernel) rfl rfl (Nat.le_of_ble_eq_true rfl) dX4_add_120 (fun H locs hP hD hS => ?_)
      have hP : va_P (dC, dI) vwCl [(h0, .inr (4, [.int x_21, .int x_20, .ref r0_2, .ref r0_3, .ref r0_4, .ref r0_5, .ref r0_6, .ref r0_7, .ref r0_8, .ref r0_9])), (r0_2, .inl (k1, 14, .inl f_2)), (r0_3, .inl (k2, 14, .inl f_3)), (r0_4, .inl (k3, 14, .inl f_4)), (r0_5, .inl (k4, 14, .inl f_5)), (r0_7, .inl (k5, 14, .inl f_6)), (r0_8, .inl (k6, 28, .inl f6)), (r0_6, .inl (k7, 14, .inl f_16))] H := hP
      have hD : va_D A [(h0, .inr (4, [.int x_21, .int x_20, .ref r0_2, .ref r0_3, .ref r0_4, .ref r0_5, .ref r0_6, .ref r0_7, .ref r0_8, .ref r0_9])), (r0_2, .inl (k1, 14, .inl f_2)), (r0_3, .inl (k2, 14, .inl f_3)), (r0_4, .inl (k3, 14, .inl f_4)), (r0_5, .inl (k4, 14, .inl f_5)), (r0_7, .inl (k5, 14, .inl f_6)), (r0_8, .inl (k6, 28, .inl f6)), (r0_6, .inl (k7, 14, .inl f_16))] := hD
      have hP9 := hP.sub (ws' := [(h0, .inr (4, [.int x_21, .int x_20, .ref r0_2, .ref r0_3, .ref r0_4, .ref r0_5, .ref r0_6, .ref r0_7, .ref r0_8, .ref r0_9])), (r0_2, .inl (k1, 14, .inl f_2)), (r0_3, .inl (k2, 14, .inl f_3)), (r0_4, .inl (k3, 14, .inl f_4)), (r0_5, .inl (k4, 14, .inl f_5)), (r0_7, .inl (k5, 14, .inl f_6)), (r0_8, .inl (k6, 28, .inl f6)), (r0_6, .inl (k7, 14, .inl f_16))]) [0, 1, 2, 3, 4, 5, 6, 7] rfl
      have hD9 := hD.sub (ws' := [(h0, .inr (4, [.int x_21, .int x_20, .ref r0_2, .ref r0_3, .ref r0_4, .ref r0_5, .ref r0_6, .ref r0_7, .ref r0_8, .ref r0_9])), (r0_2, .inl (k1, 14, .inl f_2)), (r0_3, .inl (k2, 14, .inl f_3)), (r0_4, .inl (k3, 14, .inl f_4)), (r0_5, .inl (k4, 14, .inl f_5)), (r0_7, .inl (k5, 14, .inl f_6)), (r0_8, .inl (k6, 28, .inl f6)), (r0_6, .inl (k7, 14, .inl f_16))]) [0, 1, 2, 3, 4, 5, 6, 7] (by decide) rfl
      have hK9 := hK.sub (tys' := [(k1, .int), (k2, .int), (k3, .int), (k4, .int), (k5, .int), (k6, .int), (k7, .int)]) [0, 1, 2, 3, 4, 5, 6] rfl
      rw [← hQ]
      exact W.vret hx hb hr (fun t ht hW => ⟨⟨((fun k => ([x_21, x_20] : List Int32).getD k 0), (fun k => ([f_2, f_3, f_4, f_5, f_6, f_16] : List (Nat → Int32)).getD k (fun _ => 0)), (fun k => ([] : List (Nat → Int64)).getD k (fun _ => 0))), rfl, ⟨(show (0 : Int) ≤ (x_21 : Int32).toInt ∧ (x_21 : Int32).toInt ≤ 14 by omega), trivial⟩, by rw [ht]; exact hP9, va_K.moved hW.alike hK9, hD9⟩, hS.F ht⟩) hS.2.2 dX4_add_123
    have oc_7 := zk_eq rfl (by decide +kernel : (0 : Int32).toInt = 0) c_7
    refine lv_iconst (v := 0) hx hb dX4_add_75 (by decide +kernel) ?_
    refine lv_goto (tgt := 94) hx hb dX4_add_76 (by decide) ?_
    refine va_iast hx hb hK hP hD hS 7 6 rfl rfl (vp_in_iff.mpr ⟨by omega, by omega⟩) dX4_add_94 (fun H locs hP hD hS => ?_)
    obtain ⟨f_22, ef_22⟩ : ∃ g : Nat → Int32, g = upd f7 (v0_0 : Int32).toNatClampNeg 0 := ⟨_, rfl⟩
    have hP : va_P (dC, dI) vwCl [(h0, .inr (4, [.int v0_0, .int v0_1, .ref r0_2, .ref r0_3, .ref r0_4, .ref r0_5, .ref r0_6, .ref r0_7, .ref r0_8, .ref r0_9])), (r0_2, .inl (k1, 14, .inl f_2)), (r0_3, .inl (k2, 14, .inl f_3)), (r0_4, .inl (k3, 14, .inl f_4)), (r0_5, .inl (k4, 14, .inl f_5)), (r0_7, .inl (k5, 14, .inl f_6)), (r0_8, .inl (k6, 28, .inl f6)), (r0_6, .inl (k7, 14, .inl f_22))] H := by rw [ef_22]; exact hP
    have hD : va_D A [(h0, .inr (4, [.int v0_0, .int v0_1, .ref r0_2, .ref r0_3, .ref r0_4, .ref r0_5, .ref r0_6, .ref r0_7, .ref r0_8, .ref r0_9])), (r0_2, .inl (k1, 14, .inl f_2)), (r0_3, .inl (k2, 14, .inl f_3)), (r0_4, .inl (k3, 14, .inl f_4)), (r0_5, .inl (k4, 14, .inl f_5)), (r0_7, .inl (k5, 14, .inl f_6)), (r0_8, .inl (k6, 28, .inl f6)), (r0_6, .inl (k7, 14, .inl f_22))] := by rw [ef_22]; exact hD
    refine lv_aload_n hx hb dX4_add_95 rfl (lv_at hl 0 rfl) ?_
    refine lv_dup hx hb dX4_add_96 rfl ?_
    refine va_get (D := (dC, dI)) (ci := 4) (v := .int v0_1) (C := RX4) (T := TX4) (N := 10) hx hb hts zn_X4_add_X4 hown hK hP 0 rfl rfl 1 (by decide) (hts (.fieldLink RX4 50 "ShortEnough$Numbers" "inputs" "I") zw_X4_add_94) (fun _ h9 => h9) rfl dX4_add_97 ?_
    refine lv_iload_n hx hb dX4_add_100 rfl (lv_at hl 2 rfl) ?_
    refine lv_if_ne (tgt := 108) hx hb dX4_add_101 (by decide) (fun c_23 => by exfalso; have oc_23 := zk_ne rfl (by decide +kernel : (0 : Int32).toInt = 0) c_23; omega) (fun c_23 => ?_)
    have oc_23 := zk_eq rfl (by decide +kernel : (0 : Int32).toInt = 0) c_23
    refine lv_iconst (v := 1) hx hb dX4_add_104 (by decide +kernel) ?_
    refine lv_goto (tgt := 109) hx hb dX4_add_105 (by decide) ?_
    refine lv_iadd hx hb dX4_add_109 ?_
    refine lv_topi (fun x_24 ex_24 => ?_)
    refine va_put (D := (dC, dI)) (ci := 4) (v := .int x_24) (ty := .int) (C := RX4) (T := TX4) (N := 10) hx hb hts zn_X4_add_X4 tyX4 tyX4_ok nmX4 hown hK hP hD hS 0 rfl rfl 1 (by decide) (hts (.fieldLink RX4 50 "ShortEnough$Numbers" "inputs" "I") zw_X4_add_94) (fun _ h9 => h9) rfl (by decide +kernel) rfl rfl (Nat.le_of_ble_eq_true rfl) dX4_add_110 (fun H locs hP hD hS => ?_)
    have hP : va_P (dC, dI) vwCl [(h0, .inr (4, [.int v0_0, .int x_24, .ref r0_2, .ref r0_3, .ref r0_4, .ref r0_5, .ref r0_6, .ref r0_7, .ref r0_8, .ref r0_9])), (r0_2, .inl (k1, 14, .inl f_2)), (r0_3, .inl (k2, 14, .inl f_3)), (r0_4, .inl (k3, 14, .inl f_4)), (r0_5, .inl (k4, 14, .inl f_5)), (r0_7, .inl (k5, 14, .inl f_6)), (r0_8, .inl (k6, 28, .inl f6)), (r0_6, .inl (k7, 14, .inl f_22))] H := hP
    have hD : va_D A [(h0, .inr (4, [.int v0_0, .int x_24, .ref r0_2, .ref r0_3, .ref r0_4, .ref r0_5, .ref r0_6, .ref r0_7, .ref r0_8, .ref r0_9])), (r0_2, .inl (k1, 14, .inl f_2)), (r0_3, .inl (k2, 14, .inl f_3)), (r0_4, .inl (k3, 14, .inl f_4)), (r0_5, .inl (k4, 14, .inl f_5)), (r0_7, .inl (k5, 14, .inl f_6)), (r0_8, .inl (k6, 28, .inl f6)), (r0_6, .inl (k7, 14, .inl f_22))] := hD
    refine lv_aload_n hx hb dX4_add_113 rfl (lv_at hl 0 rfl) ?_
    refine lv_dup hx hb dX4_add_114 rfl ?_
    refine va_get (D := (dC, dI)) (ci := 4) (v := .int v0_0) (C := RX4) (T := TX4) (N := 10) hx hb hts zn_X4_add_X4 hown hK hP 0 rfl rfl 0 (by decide) (hts (.fieldLink RX4 36 "ShortEnough$Numbers" "count" "I") zw_X4_add_83) (fun _ h9 => h9) rfl dX4_add_115 ?_
    refine lv_iconst (v := 1) hx hb dX4_add_118 (by decide +kernel) ?_
    refine lv_iadd hx hb dX4_add_119 ?_
    refine lv_topi (fun x_25 ex_25 => ?_)
    have hx_25 := zo_add ex_25 rfl (by decide +kernel : (1 : Int32).toInt = 1) (by omega)
    refine va_put (D := (dC, dI)) (ci := 4) (v := .int x_25) (ty := .int) (C := RX4) (T := TX4) (N := 10) hx hb hts zn_X4_add_X4 tyX4 tyX4_ok nmX4 hown hK hP hD hS 0 rfl rfl 0 (by decide) (hts (.fieldLink RX4 36 "ShortEnough$Numbers" "count" "I") zw_X4_add_83) (fun _ h9 => h9) rfl (by decide +kernel) rfl rfl (Nat.le_of_ble_eq_true rfl) dX4_add_120 (fun H locs hP hD hS => ?_)
    have hP : va_P (dC, dI) vwCl [(h0, .inr (4, [.int x_25, .int x_24, .ref r0_2, .ref r0_3, .ref r0_4, .ref r0_5, .ref r0_6, .ref r0_7, .ref r0_8, .ref r0_9])), (r0_2, .inl (k1, 14, .inl f_2)), (r0_3, .inl (k2, 14, .inl f_3)), (r0_4, .inl (k3, 14, .inl f_4)), (r0_5, .inl (k4, 14, .inl f_5)), (r0_7, .inl (k5, 14, .inl f_6)), (r0_8, .inl (k6, 28, .inl f6)), (r0_6, .inl (k7, 14, .inl f_22))] H := hP
    have hD : va_D A [(h0, .inr (4, [.int x_25, .int x_24, .ref r0_2, .ref r0_3, .ref r0_4, .ref r0_5, .ref r0_6, .ref r0_7, .ref r0_8, .ref r0_9])), (r0_2, .inl (k1, 14, .inl f_2)), (r0_3, .inl (k2, 14, .inl f_3)), (r0_4, .inl (k3, 14, .inl f_4)), (r0_5, .inl (k4, 14, .inl f_5)), (r0_7, .inl (k5, 14, .inl f_6)), (r0_8, .inl (k6, 28, .inl f6)), (r0_6, .inl (k7, 14, .inl f_22))] := hD
    have hP9 := hP.sub (ws' := [(h0, .inr (4, [.int x_25, .int x_24, .ref r0_2, .ref r0_3, .ref r0_4, .ref r0_5, .ref r0_6, .ref r0_7, .ref r0_8, .ref r0_9])), (r0_2, .inl (k1, 14, .inl f_2)), (r0_3, .inl (k2, 14, .inl f_3)), (r0_4, .inl (k3, 14, .inl f_4)), (r0_5, .inl (k4, 14, .inl f_5)), (r0_7, .inl (k5, 14, .inl f_6)), (r0_8, .inl (k6, 28, .inl f6)), (r0_6, .inl (k7, 14, .inl f_22))]) [0, 1, 2, 3, 4, 5, 6, 7] rfl
    have hD9 := hD.sub (ws' := [(h0, .inr (4, [.int x_25, .int x_24, .ref r0_2, .ref r0_3, .ref r0_4, .ref r0_5, .ref r0_6, .ref r0_7, .ref r0_8, .ref r0_9])), (r0_2, .inl (k1, 14, .inl f_2)), (r0_3, .inl (k2, 14, .inl f_3)), (r0_4, .inl (k3, 14, .inl f_4)), (r0_5, .inl (k4, 14, .inl f_5)), (r0_7, .inl (k5, 14, .inl f_6)), (r0_8, .inl (k6, 28, .inl f6)), (r0_6, .inl (k7, 14, .inl f_22))]) [0, 1, 2, 3, 4, 5, 6, 7] (by decide) rfl
    have hK9 := hK.sub (tys' := [(k1, .int), (k2, .int), (k3, .int), (k4, .int), (k5, .int), (k6, .int), (k7, .int)]) [0, 1, 2, 3, 4, 5, 6] rfl
    rw [← hQ]
    exact W.vret hx hb hr (fun t ht hW => ⟨⟨((fun k => ([x_25, x_24] : List Int32).getD k 0), (fun k => ([f_2, f_3, f_4, f_5, f_6, f_22] : List (Nat → Int32)).getD k (fun _ => 0)), (fun k => ([] : List (Nat → Int64)).getD k (fun _ => 0))), rfl, ⟨(show (0 : Int) ≤ (x_25 : Int32).toInt ∧ (x_25 : Int32).toInt ≤ 14 by omega), trivial⟩, by rw [ht]; exact hP9, va_K.moved hW.alike hK9, hD9⟩, hS.F ht⟩) hS.2.2 dX4_add_123
  have oc_1 := zk_nlt rfl (by decide +kernel : (14 : Int32).toInt = 14) c_1
  have hP9 := hP.sub (ws' := [(h0, .inr (4, [.int v0_0, .int v0_1, .ref r0_2, .ref r0_3, .ref r0_4, .ref r0_5, .ref r0_6, .ref r0_7, .ref r0_8, .ref r0_9])), (r0_2, .inl (k1, 14, .inl f1)), (r0_3, .inl (k2, 14, .inl f2)), (r0_4, .inl (k3, 14, .inl f3)), (r0_5, .inl (k4, 14, .inl f4)), (r0_7, .inl (k5, 14, .inl f5)), (r0_8, .inl (k6, 28, .inl f6)), (r0_6, .inl (k7, 14, .inl f7))]) [0, 1, 2, 3, 4, 5, 6, 7] rfl
  have hD9 := hD.sub (ws' := [(h0, .inr (4, [.int v0_0, .int v0_1, .ref r0_2, .ref r0_3, .ref r0_4, .ref r0_5, .ref r0_6, .ref r0_7, .ref r0_8, .ref r0_9])), (r0_2, .inl (k1, 14, .inl f1)), (r0_3, .inl (k2, 14, .inl f2)), (r0_4, .inl (k3, 14, .inl f3)), (r0_5, .inl (k4, 14, .inl f4)), (r0_7, .inl (k5, 14, .inl f5)), (r0_8, .inl (k6, 28, .inl f6)), (r0_6, .inl (k7, 14, .inl f7))]) [0, 1, 2, 3, 4, 5, 6, 7] (by decide) rfl
  have hK9 := hK.sub (tys' := [(k1, .int), (k2, .int), (k3, .int), (k4, .int), (k5, .int), (k6, .int), (k7, .int)]) [0, 1, 2, 3, 4, 5, 6] rfl
  rw [← hQ]
  exact W.vret hx hb hr (fun t ht hW => ⟨⟨((fun k => ([v0_0, v0_1] : List Int32).getD k 0), (fun k => ([f1, f2, f3, f4, f5, f7] : List (Nat → Int32)).getD k (fun _ => 0)), (fun k => ([] : List (Nat → Int64)).getD k (fun _ => 0))), rfl, ⟨(show (0 : Int) ≤ (v0_0 : Int32).toInt ∧ (v0_0 : Int32).toInt ≤ 14 by omega), trivial⟩, by rw [ht]; exact hP9, va_K.moved hW.alike hK9, hD9⟩, hS.F ht⟩) hS.2.2 dX4_add_9
set_option maxHeartbeats 4000000 in
set_option maxRecDepth 100000 in
theorem zs_X4_isAmong (l : Launch) (dC : Nat → ClassId) (dI : Nat → Nat → Nat) (p0 : Int32) (p1 : Int32) (p2 : Int32)  (sz : Nat) : Met l yX4_isAmong wsX4_isAmong ({ frames := 0, cells := 0, slots := 0, locals := 0 }) (va_Pc [.int p0, .int p1, .int p2] (fun U => U.heap.size = sz ∧ va_P (dC, dI) vwCl [] U.heap ∧ va_K (dC, dI) vwCl [] U ∧ va_D (fun _ => True) [])) (va_Qi (fun (r : Int32) (u : zV) => ((0 : Int) ≤ r.toInt ∧ r.toInt ≤ 1) ∧ True) (fun u t => va_P (dC, dI) vwCl [] t.heap ∧ va_K (dC, dI) vwCl [] t ∧ va_D (va_A [] sz) []) (va_A [] sz)) 0 0 (va_A [] sz) := by
  refine Met.ofW (cc := cX4_isAmong) (maxL := 3) (ret := (some .boolean)) (by decide +kernel) rfl ?_
  intro p e s m args below meth c s₁ B hml hv
  obtain ⟨rfl, hsz, hP, hK, hD0⟩ := hv
  have hx := B.exec
  have hb := B.bytes
  have hr := B.returns
  have hts := atoms_spec (ws := wsX4_isAmong) B.pre
  have hown : s.vm.findClass RX4 = some m.cls := findClass_of_methodNamed B.named
  have hlocks := B.notSynchronized
  subst hsz
  have hD := hD0.self (sz := s.heap.size)
  generalize hAe : va_A [] s.heap.size = A at hD ⊢
  have hA : ∀ q : Nat, s.heap.size ≤ q → A q := fun q h => by rw [← hAe]; exact Or.inr h
  have hS : va_S A s.heap s.heap [] := va_S.rf
  have hP : va_P (dC, dI) vwCl [] s.heap := hP
  have hl := lv_entry ([.int p0, .int p1, .int p2]) (n := 3) (Nat.le_of_ble_eq_true rfl)
  rw [lg_entry_eq]
  generalize (lg_sl ([.int p0, .int p1, .int p2]) ++ List.replicate (3 - (lg_sl ([.int p0, .int p1, .int p2])).length) Slot.unset).toArray = ls at hl ⊢
  have hl : lv_has ls 3 [(0, .int p0), (1, .int p1), (2, .int p2)] := hl
  generalize hQ : MQ below (va_Qi (fun (r : Int32) (u : zV) => ((0 : Int) ≤ r.toInt ∧ r.toInt ≤ 1) ∧ True) (fun u t => va_P (dC, dI) vwCl [] t.heap ∧ va_K (dC, dI) vwCl [] t ∧ va_D A []) A) ([.int p0, .int p1, .int p2] : List Value).toArray s 0 0 A = Q
  refine lv_iload_n hx hb dX4_isAmong_0 rfl (lv_at hl 2 rfl) ?_
  refine lv_iload_n hx hb dX4_isAmong_1 rfl (lv_at hl 0 rfl) ?_
  refine lv_icmp_eq (tgt := 18) hx hb dX4_isAmong_2 (by decide) (fun c_1 => ?_) (fun c_1 => ?_)
  · have oc_1 := zk_eq rfl rfl c_1
    refine lv_iconst (v := 1) hx hb dX4_isAmong_18 (by decide +kernel) ?_
    refine lv_goto (tgt := 23) hx hb dX4_isAmong_19 (by decide) ?_
    have hP9 := hP.sub (ws' := []) [] rfl
    have hD9 := hD.sub (ws' := []) [] (by decide) rfl
    have hK9 := hK.sub (tys' := []) [] rfl
    rw [← hQ]
    exact W.zret (v := 1) hx hb hr rfl (fun t ht hW => ⟨⟨1, ((fun k => ([] : List Int32).getD k 0), (fun k => ([] : List (Nat → Int32)).getD k (fun _ => 0)), (fun k => ([] : List (Nat → Int64)).getD k (fun _ => 0))), rfl, ⟨(show (0 : Int) ≤ (1 : Int32).toInt ∧ (1 : Int32).toInt ≤ 1 by decide +kernel), trivial⟩, by rw [ht]; exact hP9, va_K.moved hW.alike hK9, hD9⟩, hS.F ht⟩) hS.2.2 dX4_isAmong_23
  have oc_1 := zk_ne rfl rfl c_1
  refine lv_iload_n hx hb dX4_isAmong_5 rfl (lv_at hl 2 rfl) ?_
  refine lv_if_lt (tgt := 22) hx hb dX4_isAmong_6 (by decide) (fun c_2 => ?_) (fun c_2 => ?_)
  · have oc_2 := zk_lt rfl (by decide +kernel : (0 : Int32).toInt = 0) c_2
    refine lv_iconst (v := 0) hx hb dX4_isAmong_22 (by decide +kernel) ?_
    have hP9 := hP.sub (ws' := []) [] rfl
    have hD9 := hD.sub (ws' := []) [] (by decide) rfl
    have hK9 := hK.sub (tys' := []) [] rfl
    rw [← hQ]
    exact W.zret (v := 0) hx hb hr rfl (fun t ht hW => ⟨⟨0, ((fun k => ([] : List Int32).getD k 0), (fun k => ([] : List (Nat → Int32)).getD k (fun _ => 0)), (fun k => ([] : List (Nat → Int64)).getD k (fun _ => 0))), rfl, ⟨(show (0 : Int) ≤ (0 : Int32).toInt ∧ (0 : Int32).toInt ≤ 1 by decide +kernel), trivial⟩, by rw [ht]; exact hP9, va_K.moved hW.alike hK9, hD9⟩, hS.F ht⟩) hS.2.2 dX4_isAmong_23
  have oc_2 := zk_nlt rfl (by decide +kernel : (0 : Int32).toInt = 0) c_2
  refine lv_iload_n hx hb dX4_isAmong_9 rfl (lv_at hl 1 rfl) ?_
  refine lv_iload_n hx hb dX4_isAmong_10 rfl (lv_at hl 2 rfl) ?_
  refine lv_ishr hx hb dX4_isAmong_11 ?_
  refine lv_topi (fun x_3 ex_3 => ?_)
  refine lv_iconst (v := 1) hx hb dX4_isAmong_12 (by decide +kernel) ?_
  refine lv_iand hx hb dX4_isAmong_13 ?_
  refine lv_topi (fun x_4 ex_4 => ?_)
  have hx_4 := zo_and1 ex_4
  refine lv_iconst (v := 1) hx hb dX4_isAmong_14 (by decide +kernel) ?_
  refine lv_icmp_ne (tgt := 22) hx hb dX4_isAmong_15 (by decide) (fun c_5 => ?_) (fun c_5 => ?_)
  · have oc_5 := zk_ne rfl (by decide +kernel : (1 : Int32).toInt = 1) c_5
    refine lv_iconst (v := 0) hx hb dX4_isAmong_22 (by decide +kernel) ?_
    have hP9 := hP.sub (ws' := []) [] rfl
    have hD9 := hD.sub (ws' := []) [] (by decide) rfl
    have hK9 := hK.sub (tys' := []) [] rfl
    rw [← hQ]
    exact W.zret (v := 0) hx hb hr rfl (fun t ht hW => ⟨⟨0, ((fun k => ([] : List Int32).getD k 0), (fun k => ([] : List (Nat → Int32)).getD k (fun _ => 0)), (fun k => ([] : List (Nat → Int64)).getD k (fun _ => 0))), rfl, ⟨(show (0 : Int) ≤ (0 : Int32).toInt ∧ (0 : Int32).toInt ≤ 1 by decide +kernel), trivial⟩, by rw [ht]; exact hP9, va_K.moved hW.alike hK9, hD9⟩, hS.F ht⟩) hS.2.2 dX4_isAmong_23
  have oc_5 := zk_eq rfl (by decide +kernel : (1 : Int32).toInt = 1) c_5
  refine lv_iconst (v := 1) hx hb dX4_isAmong_18 (by decide +kernel) ?_
  refine lv_goto (tgt := 23) hx hb dX4_isAmong_19 (by decide) ?_
  have hP9 := hP.sub (ws' := []) [] rfl
  have hD9 := hD.sub (ws' := []) [] (by decide) rfl
  have hK9 := hK.sub (tys' := []) [] rfl
  rw [← hQ]
  exact W.zret (v := 1) hx hb hr rfl (fun t ht hW => ⟨⟨1, ((fun k => ([] : List Int32).getD k 0), (fun k => ([] : List (Nat → Int32)).getD k (fun _ => 0)), (fun k => ([] : List (Nat → Int64)).getD k (fun _ => 0))), rfl, ⟨(show (0 : Int) ≤ (1 : Int32).toInt ∧ (1 : Int32).toInt ≤ 1 by decide +kernel), trivial⟩, by rw [ht]; exact hP9, va_K.moved hW.alike hK9, hD9⟩, hS.F ht⟩) hS.2.2 dX4_isAmong_23
set_option maxHeartbeats 4000000 in
set_option maxRecDepth 100000 in
theorem zs_X4_madeFrom (l : Launch) (dC : Nat → ClassId) (dI : Nat → Nat → Nat) (h0 : Nat) (p1 : Int32) (v0_0 : Int32) (v0_1 : Int32) (r0_2 : Nat) (r0_3 : Nat) (r0_4 : Nat) (r0_5 : Nat) (r0_6 : Nat) (r0_7 : Nat) (r0_8 : Nat) (r0_9 : Nat) (k1 : Nat) (f1 : Nat → Int32) (hq_p1 : (0 : Int) ≤ p1.toInt ∧ p1.toInt ≤ 13) (hq_v0_0 : (0 : Int) ≤ v0_0.toInt ∧ v0_0.toInt ≤ 14) (sz : Nat) : Met l yX4_madeFrom wsX4_madeFrom ({ frames := 1, cells := 0, slots := 0, locals := 22 }) (va_Pc [.ref h0, .int p1] (fun U => U.heap.size = sz ∧ va_P (dC, dI) vwCl [(h0, .inr (4, [.int v0_0, .int v0_1, .ref r0_2, .ref r0_3, .ref r0_4, .ref r0_5, .ref r0_6, .ref r0_7, .ref r0_8, .ref r0_9])), (r0_8, .inl (k1, 28, .inl f1))] U.heap ∧ va_K (dC, dI) vwCl [(k1, .int)] U ∧ va_D (fun _ => True) [(h0, .inr (4, [.int v0_0, .int v0_1, .ref r0_2, .ref r0_3, .ref r0_4, .ref r0_5, .ref r0_6, .ref r0_7, .ref r0_8, .ref r0_9])), (r0_8, .inl (k1, 28, .inl f1))])) (va_Qi (fun (r : Int32) (u : zV) => True) (fun u t => va_P (dC, dI) vwCl [(h0, .inr (4, [.int v0_0, .int v0_1, .ref r0_2, .ref r0_3, .ref r0_4, .ref r0_5, .ref r0_6, .ref r0_7, .ref r0_8, .ref r0_9])), (r0_8, .inl (k1, 28, .inl f1))] t.heap ∧ va_K (dC, dI) vwCl [(k1, .int)] t ∧ va_D (va_A [(h0, .inr (4, [.int v0_0, .int v0_1, .ref r0_2, .ref r0_3, .ref r0_4, .ref r0_5, .ref r0_6, .ref r0_7, .ref r0_8, .ref r0_9])), (r0_8, .inl (k1, 28, .inl f1))] sz) [(h0, .inr (4, [.int v0_0, .int v0_1, .ref r0_2, .ref r0_3, .ref r0_4, .ref r0_5, .ref r0_6, .ref r0_7, .ref r0_8, .ref r0_9])), (r0_8, .inl (k1, 28, .inl f1))]) (va_A [(h0, .inr (4, [.int v0_0, .int v0_1, .ref r0_2, .ref r0_3, .ref r0_4, .ref r0_5, .ref r0_6, .ref r0_7, .ref r0_8, .ref r0_9])), (r0_8, .inl (k1, 28, .inl f1))] sz)) 0 0 (va_A [(h0, .inr (4, [.int v0_0, .int v0_1, .ref r0_2, .ref r0_3, .ref r0_4, .ref r0_5, .ref r0_6, .ref r0_7, .ref r0_8, .ref r0_9])), (r0_8, .inl (k1, 28, .inl f1))] sz) := by
  refine Met.ofW (cc := cX4_madeFrom) (maxL := 4) (ret := (some .int)) (by decide +kernel) rfl ?_
  intro p e s m args below meth c s₁ B hml hv
  obtain ⟨rfl, hsz, hP, hK, hD0⟩ := hv
  have hx := B.exec
  have hb := B.bytes
  have hr := B.returns
  have hts := atoms_spec (ws := wsX4_madeFrom) B.pre
  have hown : s.vm.findClass RX4 = some m.cls := findClass_of_methodNamed B.named
  have hlocks := B.notSynchronized
  subst hsz
  have hD := hD0.self (sz := s.heap.size)
  generalize hAe : va_A [(h0, .inr (4, [.int v0_0, .int v0_1, .ref r0_2, .ref r0_3, .ref r0_4, .ref r0_5, .ref r0_6, .ref r0_7, .ref r0_8, .ref r0_9])), (r0_8, .inl (k1, 28, .inl f1))] s.heap.size = A at hD ⊢
  have hA : ∀ q : Nat, s.heap.size ≤ q → A q := fun q h => by rw [← hAe]; exact Or.inr h
  have hS : va_S A s.heap s.heap [] := va_S.rf
  have hP : va_P (dC, dI) vwCl [(h0, .inr (4, [.int v0_0, .int v0_1, .ref r0_2, .ref r0_3, .ref r0_4, .ref r0_5, .ref r0_6, .ref r0_7, .ref r0_8, .ref r0_9])), (r0_8, .inl (k1, 28, .inl f1))] s.heap := hP
  have hl := lv_entry ([.ref h0, .int p1]) (n := 4) (Nat.le_of_ble_eq_true rfl)
  rw [lg_entry_eq]
  generalize (lg_sl ([.ref h0, .int p1]) ++ List.replicate (4 - (lg_sl ([.ref h0, .int p1])).length) Slot.unset).toArray = ls at hl ⊢
  have hl : lv_has ls 4 [(0, .ref h0), (1, .int p1)] := hl
  generalize hQ : MQ below (va_Qi (fun (r : Int32) (u : zV) => True) (fun u t => va_P (dC, dI) vwCl [(h0, .inr (4, [.int v0_0, .int v0_1, .ref r0_2, .ref r0_3, .ref r0_4, .ref r0_5, .ref r0_6, .ref r0_7, .ref r0_8, .ref r0_9])), (r0_8, .inl (k1, 28, .inl f1))] t.heap ∧ va_K (dC, dI) vwCl [(k1, .int)] t ∧ va_D A [(h0, .inr (4, [.int v0_0, .int v0_1, .ref r0_2, .ref r0_3, .ref r0_4, .ref r0_5, .ref r0_6, .ref r0_7, .ref r0_8, .ref r0_9])), (r0_8, .inl (k1, 28, .inl f1))]) A) ([.ref h0, .int p1] : List Value).toArray s 0 0 A = Q
  refine lv_iconst (v := 0) hx hb dX4_madeFrom_0 (by decide +kernel) ?_
  refine lv_istore_n (lv' := [(2, .int 0), (0, .ref h0), (1, .int p1)]) hx hb dX4_madeFrom_1 rfl hl (by decide) rfl (fun ls hl => ?_)
  refine lv_iload_n hx hb dX4_madeFrom_2 rfl (lv_at hl 2 rfl) ?_
  refine lv_iconst (v := 1) hx hb dX4_madeFrom_3 (by decide +kernel) ?_
  refine lv_iadd hx hb dX4_madeFrom_4 ?_
  refine lv_topi (fun x_1 ex_1 => ?_)
  have hx_1 := zo_add ex_1 rfl (by decide +kernel : (1 : Int32).toInt = 1) (by omega)
  refine lv_istore_n (lv' := [(3, .int x_1), (2, .int 0), (0, .ref h0), (1, .int p1)]) hx hb dX4_madeFrom_5 rfl hl (by decide) rfl (fun ls hl => ?_)
  have lp6 : ∀ (n : Nat) (y6_2 : Int32) (y6_3 : Int32) (H : Heap) (locs : List Loc) (ls : Array Slot), (0 : Int) ≤ y6_3.toInt + (-1) → (p1.toInt : Int) ≤ y6_3.toInt + (-1) → (y6_3.toInt : Int) ≤ 0 + (14) → 15 - y6_3.toInt < n → va_P (dC, dI) vwCl [(h0, .inr (4, [.int v0_0, .int v0_1, .ref r0_2, .ref r0_3, .ref r0_4, .ref r0_5, .ref r0_6, .ref r0_7, .ref r0_8, .ref r0_9])), (r0_8, .inl (k1, 28, .inl f1))] H → va_D A [(h0, .inr (4, [.int v0_0, .int v0_1, .ref r0_2, .ref r0_3, .ref r0_4, .ref r0_5, .ref r0_6, .ref r0_7, .ref r0_8, .ref r0_9])), (r0_8, .inl (k1, 28, .inl f1))] → va_S A s.heap H locs → lv_has ls 4 [(3, .int y6_3), (2, .int y6_2), (0, .ref h0), (1, .int p1)] → W p l e (headSpec wsX4_madeFrom ({ frames := 1, cells := 0, slots := 0, locals := 22 })).room s m ([.ref h0, .int p1] : List Value).toArray below meth c H locs 0 0 Q (F0 m 6 ls []) := by
    intro n
    induction n with
    | zero =>
      intro y6_2 y6_3 H locs ls hz6_0 hz6_1 hz6_2  hmeas hP hD hS hl
      exfalso; omega
    | succ n ih6 =>
      intro y6_2 y6_3 H locs ls hz6_0 hz6_1 hz6_2  hmeas hP hD hS hl
      refine lv_iload_n hx hb dX4_madeFrom_6 rfl (lv_at hl 0 rfl) ?_
      refine lv_aload_n hx hb dX4_madeFrom_7 rfl (lv_at hl 2 rfl) ?_
      refine va_get (D := (dC, dI)) (ci := 4) (v := .int v0_0) (C := RX4) (T := TX4) (N := 10) hx hb hts zn_X4_madeFrom_X4 hown hK hP 0 rfl rfl 0 (by decide) (hts (.fieldLink RX4 36 "ShortEnough$Numbers" "count" "I") zw_X4_madeFrom_96) (fun _ h9 => h9) rfl dX4_madeFrom_8 ?_
      refine lv_icmp_ge (tgt := 54) hx hb dX4_madeFrom_11 (by decide) (fun c_2 => ?_) (fun c_2 => ?_)
      · have oc_2 := zk_le rfl rfl c_2
        refine lv_iload_n hx hb dX4_madeFrom_54 rfl (lv_at hl 1 rfl) ?_
        have hP9 := hP.sub (ws' := [(h0, .inr (4, [.int v0_0, .int v0_1, .ref r0_2, .ref r0_3, .ref r0_4, .ref r0_5, .ref r0_6, .ref r0_7, .ref r0_8, .ref r0_9])), (r0_8, .inl (k1, 28, .inl f1))]) [0, 1] rfl
        have hD9 := hD.sub (ws' := [(h0, .inr (4, [.int v0_0, .int v0_1, .ref r0_2, .ref r0_3, .ref r0_4, .ref r0_5, .ref r0_6, .ref r0_7, .ref r0_8, .ref r0_9])), (r0_8, .inl (k1, 28, .inl f1))]) [0, 1] (by decide) rfl
        have hK9 := hK.sub (tys' := [(k1, .int)]) [0] rfl
        rw [← hQ]
        exact W.iret (v := y6_2) hx hb hr (fun t ht hW => ⟨⟨y6_2, ((fun k => ([] : List Int32).getD k 0), (fun k => ([] : List (Nat → Int32)).getD k (fun _ => 0)), (fun k => ([] : List (Nat → Int64)).getD k (fun _ => 0))), rfl, trivial, by rw [ht]; exact hP9, va_K.moved hW.alike hK9, hD9⟩, hS.F ht⟩) hS.2.2 dX4_madeFrom_55
      have oc_2 := zk_nle rfl rfl c_2
      refine lv_iload_n hx hb dX4_madeFrom_14 rfl (lv_at hl 3 rfl) ?_
      refine lv_iload_n hx hb dX4_madeFrom_15 rfl (lv_at hl 1 rfl) ?_
      refine lv_aload_n hx hb dX4_madeFrom_16 rfl (lv_at hl 2 rfl) ?_
      refine lv_iload_n hx hb dX4_madeFrom_17 rfl (lv_at hl 0 rfl) ?_
      refine lv_iconst (v := 0) hx hb dX4_madeFrom_18 (by decide +kernel) ?_
      have hPc := hP.sub (ws' := [(h0, .inr (4, [.int v0_0, .int v0_1, .ref r0_2, .ref r0_3, .ref r0_4, .ref r0_5, .ref r0_6, .ref r0_7, .ref r0_8, .ref r0_9])), (r0_8, .inl (k1, 28, .inl f1))]) [0, 1] rfl
      have hDc := hD.sub (ws' := [(h0, .inr (4, [.int v0_0, .int v0_1, .ref r0_2, .ref r0_3, .ref r0_4, .ref r0_5, .ref r0_6, .ref r0_7, .ref r0_8, .ref r0_9])), (r0_8, .inl (k1, 28, .inl f1))]) [0, 1] (by decide) rfl
      have hKc := hK.sub (tys' := [(k1, .int)]) [0] rfl
      have hFc := va_free (wc := [(h0, .inr (4, [.int v0_0, .int v0_1, .ref r0_2, .ref r0_3, .ref r0_4, .ref r0_5, .ref r0_6, .ref r0_7, .ref r0_8, .ref r0_9])), (r0_8, .inl (k1, 28, .inl f1))]) hD hS hA [0, 1] rfl
      refine va_calli (va_runV (As := [.int y6_3, .int 0]) (rest := [.int y6_2, .int p1]) ⟨hx, hb, hml, hown, hts⟩ (zs_X4_madeOf l dC dI h0 y6_3 0 v0_0 v0_1 r0_2 r0_3 r0_4 r0_5 r0_6 r0_7 r0_8 r0_9 k1 f1 (by omega) H.size) (cwV 2 hts gX4_madeFrom_X4_madeOf rfl rfl rfl (by decide +kernel) ⟨Nat.le_of_ble_eq_true rfl, Nat.le_of_ble_eq_true rfl⟩) ⟨fun a U g mk q => by obtain ⟨q0, q1, qP, qK, qD⟩ := q; exact ⟨q0, q1, qP, va_K.moved (u := U) (U := U.calling g mk a) (Vm.Alike.refl U.vm) qK, qD⟩, va_recv hKc hPc (ci := 4) (q0 := 0) rfl rfl, fun U hU hW => ⟨rfl, by rw [hU], by rw [hU]; exact hPc, va_K.moved hW.alike hKc, hDc.weaken (fun _ _ _ _ => trivial)⟩⟩ rfl rfl hl.1 rfl (lv_room (Nat.le_of_ble_eq_true rfl)) dX4_madeFrom_19 ⟨Nat.le_of_ble_eq_true rfl, Nat.le_of_ble_eq_true rfl⟩) hS (fun q _ h => hFc q h) hFc (fun r_3 u_4 t H1 locs ht hvm hw_5 hB hz1 hk1 hS => ?_)
      obtain ⟨hP1, hK1, hD1⟩ := hB
      rw [ht] at hP1
      have hK1 := va_K.moved hvm.symm hK1
      obtain ⟨hP, hD⟩ := va_join (wr := []) (w1 := [(h0, .inr (4, [.int v0_0, .int v0_1, .ref r0_2, .ref r0_3, .ref r0_4, .ref r0_5, .ref r0_6, .ref r0_7, .ref r0_8, .ref r0_9])), (r0_8, .inl (k1, 28, .inl f1))]) hP hD [0, 1] [] rfl rfl (by decide) (by decide) hk1 hFc hP1 hD1
      have hK := hK
      generalize H1 = H at hP hS ⊢
      have hP := hP.sub (ws' := [(h0, .inr (4, [.int v0_0, .int v0_1, .ref r0_2, .ref r0_3, .ref r0_4, .ref r0_5, .ref r0_6, .ref r0_7, .ref r0_8, .ref r0_9])), (r0_8, .inl (k1, 28, .inl f1))]) [0, 1] rfl
      have hD := hD.sub (ws' := [(h0, .inr (4, [.int v0_0, .int v0_1, .ref r0_2, .ref r0_3, .ref r0_4, .ref r0_5, .ref r0_6, .ref r0_7, .ref r0_8, .ref r0_9])), (r0_8, .inl (k1, 28, .inl f1))]) [0, 1] (by decide) rfl
      have hP : va_P (dC, dI) vwCl [(h0, .inr (4, [.int v0_0, .int v0_1, .ref r0_2, .ref r0_3, .ref r0_4, .ref r0_5, .ref r0_6, .ref r0_7, .ref r0_8, .ref r0_9])), (r0_8, .inl (k1, 28, .inl f1))] H := hP
      have hD : va_D A [(h0, .inr (4, [.int v0_0, .int v0_1, .ref r0_2, .ref r0_3, .ref r0_4, .ref r0_5, .ref r0_6, .ref r0_7, .ref r0_8, .ref r0_9])), (r0_8, .inl (k1, 28, .inl f1))] := hD
      obtain ⟨hir_3, -⟩ := hw_5
      have hPc := hP.sub (ws' := []) [] rfl
      have hDc := hD.sub (ws' := []) [] (by decide) rfl
      have hKc := hK.sub (tys' := []) [] rfl
      have hFc := va_free (wc := []) hD hS hA [] rfl
      refine va_calli (va_runS (As := [.int p1, .int y6_2, .int r_3]) (rest := []) ⟨hx, hb, hml, hown, hts⟩ (zs_X4_isAmong l dC dI p1 y6_2 r_3  H.size) (va_cwS 3 hts gX4_madeFrom_X4_isAmong rfl rfl rfl (by decide +kernel) ⟨Nat.le_of_ble_eq_true rfl, Nat.le_of_ble_eq_true rfl⟩) ⟨fun a U g mk q => by obtain ⟨q0, q1, qP, qK, qD⟩ := q; exact ⟨q0, q1, qP, va_K.moved (u := U) (U := U.calling g mk a) (Vm.Alike.refl U.vm) qK, qD⟩, fun U hU hW => ⟨rfl, by rw [hU], by rw [hU]; exact hPc, va_K.moved hW.alike hKc, hDc.weaken (fun _ _ _ _ => trivial)⟩⟩ rfl rfl hl.1 rfl (lv_room (Nat.le_of_ble_eq_true rfl)) dX4_madeFrom_22 ⟨Nat.le_of_ble_eq_true rfl, Nat.le_of_ble_eq_true rfl⟩) hS (fun q _ h => hFc q h) hFc (fun r_6 u_7 t H1 locs ht hvm hw_8 hB hz1 hk1 hS => ?_)
      obtain ⟨hP1, hK1, hD1⟩ := hB
      rw [ht] at hP1
      have hK1 := va_K.moved hvm.symm hK1
      obtain ⟨hP, hD⟩ := va_join (wr := [(h0, .inr (4, [.int v0_0, .int v0_1, .ref r0_2, .ref r0_3, .ref r0_4, .ref r0_5, .ref r0_6, .ref r0_7, .ref r0_8, .ref r0_9])), (r0_8, .inl (k1, 28, .inl f1))]) (w1 := []) hP hD [] [0, 1] rfl rfl (by decide) (by decide) hk1 hFc hP1 hD1
      have hK := hK
      generalize H1 = H at hP hS ⊢
      have hP := hP.sub (ws' := [(h0, .inr (4, [.int v0_0, .int v0_1, .ref r0_2, .ref r0_3, .ref r0_4, .ref r0_5, .ref r0_6, .ref r0_7, .ref r0_8, .ref r0_9])), (r0_8, .inl (k1, 28, .inl f1))]) [0, 1] rfl
      have hD := hD.sub (ws' := [(h0, .inr (4, [.int v0_0, .int v0_1, .ref r0_2, .ref r0_3, .ref r0_4, .ref r0_5, .ref r0_6, .ref r0_7, .ref r0_8, .ref r0_9])), (r0_8, .inl (k1, 28, .inl f1))]) [0, 1] (by decide) rfl
      have hP : va_P (dC, dI) vwCl [(h0, .inr (4, [.int v0_0, .int v0_1, .ref r0_2, .ref r0_3, .ref r0_4, .ref r0_5, .ref r0_6, .ref r0_7, .ref r0_8, .ref r0_9])), (r0_8, .inl (k1, 28, .inl f1))] H := hP
      have hD : va_D A [(h0, .inr (4, [.int v0_0, .int v0_1, .ref r0_2, .ref r0_3, .ref r0_4, .ref r0_5, .ref r0_6, .ref r0_7, .ref r0_8, .ref r0_9])), (r0_8, .inl (k1, 28, .inl f1))] := hD
      obtain ⟨hr_6, -⟩ := hw_8
      refine lv_if_ne (tgt := 42) hx hb dX4_madeFrom_25 (by decide) (fun c_9 => ?_) (fun c_9 => ?_)
      · have oc_9 := zk_ne rfl (by decide +kernel : (0 : Int32).toInt = 0) c_9
        refine lv_iload_n hx hb dX4_madeFrom_42 rfl (lv_at hl 1 rfl) ?_
        refine lv_iconst (v := 1) hx hb dX4_madeFrom_43 (by decide +kernel) ?_
        refine lv_iload_n hx hb dX4_madeFrom_44 rfl (lv_at hl 0 rfl) ?_
        refine lv_ishl hx hb dX4_madeFrom_45 ?_
        refine lv_topi (fun x_10 ex_10 => ?_)
        refine lv_ior hx hb dX4_madeFrom_46 ?_
        refine lv_topi (fun x_11 ex_11 => ?_)
        refine lv_istore_n (lv' := [(2, .int x_11), (3, .int y6_3), (0, .ref h0), (1, .int p1)]) hx hb dX4_madeFrom_47 rfl hl (by decide) rfl (fun ls hl => ?_)
        obtain ⟨x_12, ex_12⟩ : ∃ y : Int32, y = y6_3 + 1 := ⟨_, rfl⟩
        refine lv_iinc (v := x_12) (lv' := [(3, .int x_12), (2, .int x_11), (0, .ref h0), (1, .int p1)]) hx hb dX4_madeFrom_48 hl (k := 1) rfl (by rw [ex_12]; rfl) (by decide) rfl (fun ls hl => ?_)
        have hx_12 := zo_add ex_12 rfl (by decide +kernel : (1 : Int32).toInt = 1) (by omega)
        refine lv_goto (tgt := 6) hx hb dX4_madeFrom_51 (by decide) ?_
        exact ih6  x_11 x_12 H locs ls (by omega) (by omega) (by omega)  (by omega) hP hD hS (lv_sub hl [0, 1, 2, 3] rfl)
      have oc_9 := zk_eq rfl (by decide +kernel : (0 : Int32).toInt = 0) c_9
      refine lv_iload_n hx hb dX4_madeFrom_28 rfl (lv_at hl 3 rfl) ?_
      refine lv_iload_n hx hb dX4_madeFrom_29 rfl (lv_at hl 1 rfl) ?_
      refine lv_aload_n hx hb dX4_madeFrom_30 rfl (lv_at hl 2 rfl) ?_
      refine lv_iload_n hx hb dX4_madeFrom_31 rfl (lv_at hl 0 rfl) ?_
      refine lv_iconst (v := 1) hx hb dX4_madeFrom_32 (by decide +kernel) ?_
      have hPc := hP.sub (ws' := [(h0, .inr (4, [.int v0_0, .int v0_1, .ref r0_2, .ref r0_3, .ref r0_4, .ref r0_5, .ref r0_6, .ref r0_7, .ref r0_8, .ref r0_9])), (r0_8, .inl (k1, 28, .inl f1))]) [0, 1] rfl
      have hDc := hD.sub (ws' := [(h0, .inr (4, [.int v0_0, .int v0_1, .ref r0_2, .ref r0_3, .ref r0_4, .ref r0_5, .ref r0_6, .ref r0_7, .ref r0_8, .ref r0_9])), (r0_8, .inl (k1, 28, .inl f1))]) [0, 1] (by decide) rfl
      have hKc := hK.sub (tys' := [(k1, .int)]) [0] rfl
      have hFc := va_free (wc := [(h0, .inr (4, [.int v0_0, .int v0_1, .ref r0_2, .ref r0_3, .ref r0_4, .ref r0_5, .ref r0_6, .ref r0_7, .ref r0_8, .ref r0_9])), (r0_8, .inl (k1, 28, .inl f1))]) hD hS hA [0, 1] rfl
      refine va_calli (va_runV (As := [.int y6_3, .int 1]) (rest := [.int y6_2, .int p1]) ⟨hx, hb, hml, hown, hts⟩ (zs_X4_madeOf l dC dI h0 y6_3 1 v0_0 v0_1 r0_2 r0_3 r0_4 r0_5 r0_6 r0_7 r0_8 r0_9 k1 f1 (by omega) H.size) (cwV 2 hts gX4_madeFrom_X4_madeOf rfl rfl rfl (by decide +kernel) ⟨Nat.le_of_ble_eq_true rfl, Nat.le_of_ble_eq_true rfl⟩) ⟨fun a U g mk q => by obtain ⟨q0, q1, qP, qK, qD⟩ := q; exact ⟨q0, q1, qP, va_K.moved (u := U) (U := U.calling g mk a) (Vm.Alike.refl U.vm) qK, qD⟩, va_recv hKc hPc (ci := 4) (q0 := 0) rfl rfl, fun U hU hW => ⟨rfl, by rw [hU], by rw [hU]; exact hPc, va_K.moved hW.alike hKc, hDc.weaken (fun _ _ _ _ => trivial)⟩⟩ rfl rfl hl.1 rfl (lv_room (Nat.le_of_ble_eq_true rfl)) dX4_madeFrom_33 ⟨Nat.le_of_ble_eq_true rfl, Nat.le_of_ble_eq_true rfl⟩) hS (fun q _ h => hFc q h) hFc (fun r_13 u_14 t H1 locs ht hvm hw_15 hB hz1 hk1 hS => ?_)
      obtain ⟨hP1, hK1, hD1⟩ := hB
      rw [ht] at hP1
      have hK1 := va_K.moved hvm.symm hK1
      obtain ⟨hP, hD⟩ := va_join (wr := []) (w1 := [(h0, .inr (4, [.int v0_0, .int v0_1, .ref r0_2, .ref r0_3, .ref r0_4, .ref r0_5, .ref r0_6, .ref r0_7, .ref r0_8, .ref r0_9])), (r0_8, .inl (k1, 28, .inl f1))]) hP hD [0, 1] [] rfl rfl (by decide) (by decide) hk1 hFc hP1 hD1
      have hK := hK
      generalize H1 = H at hP hS ⊢
      have hP := hP.sub (ws' := [(h0, .inr (4, [.int v0_0, .int v0_1, .ref r0_2, .ref r0_3, .ref r0_4, .ref r0_5, .ref r0_6, .ref r0_7, .ref r0_8, .ref r0_9])), (r0_8, .inl (k1, 28, .inl f1))]) [0, 1] rfl
      have hD := hD.sub (ws' := [(h0, .inr (4, [.int v0_0, .int v0_1, .ref r0_2, .ref r0_3, .ref r0_4, .ref r0_5, .ref r0_6, .ref r0_7, .ref r0_8, .ref r0_9])), (r0_8, .inl (k1, 28, .inl f1))]) [0, 1] (by decide) rfl
      have hP : va_P (dC, dI) vwCl [(h0, .inr (4, [.int v0_0, .int v0_1, .ref r0_2, .ref r0_3, .ref r0_4, .ref r0_5, .ref r0_6, .ref r0_7, .ref r0_8, .ref r0_9])), (r0_8, .inl (k1, 28, .inl f1))] H := hP
      have hD : va_D A [(h0, .inr (4, [.int v0_0, .int v0_1, .ref r0_2, .ref r0_3, .ref r0_4, .ref r0_5, .ref r0_6, .ref r0_7, .ref r0_8, .ref r0_9])), (r0_8, .inl (k1, 28, .inl f1))] := hD
      obtain ⟨hir_13, -⟩ := hw_15
      have hPc := hP.sub (ws' := []) [] rfl
      have hDc := hD.sub (ws' := []) [] (by decide) rfl
      have hKc := hK.sub (tys' := []) [] rfl
      have hFc := va_free (wc := []) hD hS hA [] rfl
      refine va_calli (va_runS (As := [.int p1, .int y6_2, .int r_13]) (rest := []) ⟨hx, hb, hml, hown, hts⟩ (zs_X4_isAmong l dC dI p1 y6_2 r_13  H.size) (va_cwS 3 hts gX4_madeFrom_X4_isAmong rfl rfl rfl (by decide +kernel) ⟨Nat.le_of_ble_eq_true rfl, Nat.le_of_ble_eq_true rfl⟩) ⟨fun a U g mk q => by obtain ⟨q0, q1, qP, qK, qD⟩ := q; exact ⟨q0, q1, qP, va_K.moved (u := U) (U := U.calling g mk a) (Vm.Alike.refl U.vm) qK, qD⟩, fun U hU hW => ⟨rfl, by rw [hU], by rw [hU]; exact hPc, va_K.moved hW.alike hKc, hDc.weaken (fun _ _ _ _ => trivial)⟩⟩ rfl rfl hl.1 rfl (lv_room (Nat.le_of_ble_eq_true rfl)) dX4_madeFrom_36 ⟨Nat.le_of_ble_eq_true rfl, Nat.le_of_ble_eq_true rfl⟩) hS (fun q _ h => hFc q h) hFc (fun r_16 u_17 t H1 locs ht hvm hw_18 hB hz1 hk1 hS => ?_)
      obtain ⟨hP1, hK1, hD1⟩ := hB
      rw [ht] at hP1
      have hK1 := va_K.moved hvm.symm hK1
      obtain ⟨hP, hD⟩ := va_join (wr := [(h0, .inr (4, [.int v0_0, .int v0_1, .ref r0_2, .ref r0_3, .ref r0_4, .ref r0_5, .ref r0_6, .ref r0_7, .ref r0_8, .ref r0_9])), (r0_8, .inl (k1, 28, .inl f1))]) (w1 := []) hP hD [] [0, 1] rfl rfl (by decide) (by decide) hk1 hFc hP1 hD1
      have hK := hK
      generalize H1 = H at hP hS ⊢
      have hP := hP.sub (ws' := [(h0, .inr (4, [.int v0_0, .int v0_1, .ref r0_2, .ref r0_3, .ref r0_4, .ref r0_5, .ref r0_6, .ref r0_7, .ref r0_8, .ref r0_9])), (r0_8, .inl (k1, 28, .inl f1))]) [0, 1] rfl
      have hD := hD.sub (ws' := [(h0, .inr (4, [.int v0_0, .int v0_1, .ref r0_2, .ref r0_3, .ref r0_4, .ref r0_5, .ref r0_6, .ref r0_7, .ref r0_8, .ref r0_9])), (r0_8, .inl (k1, 28, .inl f1))]) [0, 1] (by decide) rfl
      have hP : va_P (dC, dI) vwCl [(h0, .inr (4, [.int v0_0, .int v0_1, .ref r0_2, .ref r0_3, .ref r0_4, .ref r0_5, .ref r0_6, .ref r0_7, .ref r0_8, .ref r0_9])), (r0_8, .inl (k1, 28, .inl f1))] H := hP
      have hD : va_D A [(h0, .inr (4, [.int v0_0, .int v0_1, .ref r0_2, .ref r0_3, .ref r0_4, .ref r0_5, .ref r0_6, .ref r0_7, .ref r0_8, .ref r0_9])), (r0_8, .inl (k1, 28, .inl f1))] := hD
      obtain ⟨hr_16, -⟩ := hw_18
      refine lv_if_eq (tgt := 48) hx hb dX4_madeFrom_39 (by decide) (fun c_19 => ?_) (fun c_19 => ?_)
      · have oc_19 := zk_eq rfl (by decide +kernel : (0 : Int32).toInt = 0) c_19
        obtain ⟨x_20, ex_20⟩ : ∃ y : Int32, y = y6_3 + 1 := ⟨_, rfl⟩
        refine lv_iinc (v := x_20) (lv' := [(3, .int x_20), (2, .int y6_2), (0, .ref h0), (1, .int p1)]) hx hb dX4_madeFrom_48 hl (k := 0) rfl (by rw [ex_20]; rfl) (by decide) rfl (fun ls hl => ?_)
        have hx_20 := zo_add ex_20 rfl (by decide +kernel : (1 : Int32).toInt = 1) (by omega)
        refine lv_goto (tgt := 6) hx hb dX4_madeFrom_51 (by decide) ?_
        exact ih6  y6_2 x_20 H locs ls (by omega) (by omega) (by omega)  (by omega) hP hD hS (lv_sub hl [0, 1, 2, 3] rfl)
      have oc_19 := zk_ne rfl (by decide +kernel : (0 : Int32).toInt = 0) c_19
      refine lv_iload_n hx hb dX4_madeFrom_42 rfl (lv_at hl 1 rfl) ?_
      refine lv_iconst (v := 1) hx hb dX4_madeFrom_43 (by decide +kernel) ?_
      refine lv_iload_n hx hb dX4_madeFrom_44 rfl (lv_at hl 0 rfl) ?_
      refine lv_ishl hx hb dX4_madeFrom_45 ?_
      refine lv_topi (fun x_21 ex_21 => ?_)
      refine lv_ior hx hb dX4_madeFrom_46 ?_
      refine lv_topi (fun x_22 ex_22 => ?_)
      refine lv_istore_n (lv' := [(2, .int x_22), (3, .int y6_3), (0, .ref h0), (1, .int p1)]) hx hb dX4_madeFrom_47 rfl hl (by decide) rfl (fun ls hl => ?_)
      obtain ⟨x_23, ex_23⟩ : ∃ y : Int32, y = y6_3 + 1 := ⟨_, rfl⟩
      refine lv_iinc (v := x_23) (lv' := [(3, .int x_23), (2, .int x_22), (0, .ref h0), (1, .int p1)]) hx hb dX4_madeFrom_48 hl (k := 1) rfl (by rw [ex_23]; rfl) (by decide) rfl (fun ls hl => ?_)
      have hx_23 := zo_add ex_23 rfl (by decide +kernel : (1 : Int32).toInt = 1) (by omega)
      refine lv_goto (tgt := 6) hx hb dX4_madeFrom_51 (by decide) ?_
      exact ih6  x_22 x_23 H locs ls (by omega) (by omega) (by omega)  (by omega) hP hD hS (lv_sub hl [0, 1, 2, 3] rfl)
  have kk0 : (0 : Int32).toInt = 0 := (by decide +kernel)
  exact lp6 ((15 - (x_1 : Int32).toInt).toNat + 1) 0 x_1 s.heap [] ls (by omega) (by omega) (by omega)  (by omega) hP hD hS (lv_sub hl [0, 1, 2, 3] rfl)
set_option maxHeartbeats 4000000 in
set_option maxRecDepth 100000 in
theorem zs_X9_castsOf (l : Launch) (dC : Nat → ClassId) (dI : Nat → Nat → Nat) (h0 : Nat) (h1 : Nat) (v0_0 : Int32) (r0_1 : Nat) (r0_2 : Nat) (r0_3 : Nat) (r0_4 : Nat) (v0_5 : Int32) (r0_6 : Nat) (r0_7 : Nat) (r0_8 : Nat) (v1_0 : Int32) (v1_1 : Int32) (r1_2 : Nat) (r1_3 : Nat) (r1_4 : Nat) (r1_5 : Nat) (r1_6 : Nat) (r1_7 : Nat) (r1_8 : Nat) (r1_9 : Nat) (k2 : Nat) (f2 : Nat → Int32) (v3_0 : Int32) (v3_1 : Int32) (v3_2 : Int32) (r3_3 : Nat) (r3_4 : Nat) (r3_5 : Nat) (k4 : Nat) (f4 : Nat → Int32) (k5 : Nat) (f5 : Nat → Int32) (hq_v0_0 : (0 : Int) ≤ v0_0.toInt ∧ v0_0.toInt ≤ 4) (hq_v1_0 : (0 : Int) ≤ v1_0.toInt ∧ v1_0.toInt ≤ 14) (hq_v3_0 : (0 : Int) ≤ v3_0.toInt ∧ v3_0.toInt ≤ 14) (hq_v3_2 : (0 : Int) ≤ v3_2.toInt ∧ v3_2.toInt ≤ 1) (hf4 : zr f4 (-1) 13) (sz : Nat) : Met l yX9_castsOf wsX9_castsOf ({ frames := 1, cells := 0, slots := 0, locals := 23 }) (va_Pc [.ref h0, .ref h1] (fun U => U.heap.size = sz ∧ va_P (dC, dI) vwCl [(h0, .inr (9, [.int v0_0, .ref r0_1, .ref r0_2, .ref r0_3, .ref r0_4, .int v0_5, .ref r0_6, .ref r0_7, .ref r0_8])), (r0_6, .inr (4, [.int v1_0, .int v1_1, .ref r1_2, .ref r1_3, .ref r1_4, .ref r1_5, .ref r1_6, .ref r1_7, .ref r1_8, .ref r1_9])), (r1_8, .inl (k2, 28, .inl f2)), (r0_7, .inr (2, [.int v3_0, .int v3_1, .int v3_2, .ref r3_3, .ref r3_4, .ref r3_5])), (r3_3, .inl (k4, 14, .inl f4)), (h1, .inl (k5, 14, .inl f5))] U.heap ∧ va_K (dC, dI) vwCl [(k2, .int), (k4, .int), (k5, .int)] U ∧ va_D (fun _ => True) [(h0, .inr (9, [.int v0_0, .ref r0_1, .ref r0_2, .ref r0_3, .ref r0_4, .int v0_5, .ref r0_6, .ref r0_7, .ref r0_8])), (r0_6, .inr (4, [.int v1_0, .int v1_1, .ref r1_2, .ref r1_3, .ref r1_4, .ref r1_5, .ref r1_6, .ref r1_7, .ref r1_8, .ref r1_9])), (r1_8, .inl (k2, 28, .inl f2)), (r0_7, .inr (2, [.int v3_0, .int v3_1, .int v3_2, .ref r3_3, .ref r3_4, .ref r3_5])), (r3_3, .inl (k4, 14, .inl f4)), (h1, .inl (k5, 14, .inl f5))])) (va_Qi (fun (r : Int32) (u : zV) => True) (fun u t => va_P (dC, dI) vwCl [(h0, .inr (9, [.int v0_0, .ref r0_1, .ref r0_2, .ref r0_3, .ref r0_4, .int v0_5, .ref r0_6, .ref r0_7, .ref r0_8])), (r0_6, .inr (4, [.int v1_0, .int v1_1, .ref r1_2, .ref r1_3, .ref r1_4, .ref r1_5, .ref r1_6, .ref r1_7, .ref r1_8, .ref r1_9])), (r1_8, .inl (k2, 28, .inl f2)), (r0_7, .inr (2, [.int v3_0, .int v3_1, .int v3_2, .ref r3_3, .ref r3_4, .ref r3_5])), (r3_3, .inl (k4, 14, .inl f4)), (h1, .inl (k5, 14, .inl f5))] t.heap ∧ va_K (dC, dI) vwCl [(k2, .int), (k4, .int), (k5, .int)] t ∧ va_D (va_A [(h0, .inr (9, [.int v0_0, .ref r0_1, .ref r0_2, .ref r0_3, .ref r0_4, .int v0_5, .ref r0_6, .ref r0_7, .ref r0_8])), (r0_6, .inr (4, [.int v1_0, .int v1_1, .ref r1_2, .ref r1_3, .ref r1_4, .ref r1_5, .ref r1_6, .ref r1_7, .ref r1_8, .ref r1_9])), (r1_8, .inl (k2, 28, .inl f2)), (r0_7, .inr (2, [.int v3_0, .int v3_1, .int v3_2, .ref r3_3, .ref r3_4, .ref r3_5])), (r3_3, .inl (k4, 14, .inl f4)), (h1, .inl (k5, 14, .inl f5))] sz) [(h0, .inr (9, [.int v0_0, .ref r0_1, .ref r0_2, .ref r0_3, .ref r0_4, .int v0_5, .ref r0_6, .ref r0_7, .ref r0_8])), (r0_6, .inr (4, [.int v1_0, .int v1_1, .ref r1_2, .ref r1_3, .ref r1_4, .ref r1_5, .ref r1_6, .ref r1_7, .ref r1_8, .ref r1_9])), (r1_8, .inl (k2, 28, .inl f2)), (r0_7, .inr (2, [.int v3_0, .int v3_1, .int v3_2, .ref r3_3, .ref r3_4, .ref r3_5])), (r3_3, .inl (k4, 14, .inl f4)), (h1, .inl (k5, 14, .inl f5))]) (va_A [(h0, .inr (9, [.int v0_0, .ref r0_1, .ref r0_2, .ref r0_3, .ref r0_4, .int v0_5, .ref r0_6, .ref r0_7, .ref r0_8])), (r0_6, .inr (4, [.int v1_0, .int v1_1, .ref r1_2, .ref r1_3, .ref r1_4, .ref r1_5, .ref r1_6, .ref r1_7, .ref r1_8, .ref r1_9])), (r1_8, .inl (k2, 28, .inl f2)), (r0_7, .inr (2, [.int v3_0, .int v3_1, .int v3_2, .ref r3_3, .ref r3_4, .ref r3_5])), (r3_3, .inl (k4, 14, .inl f4)), (h1, .inl (k5, 14, .inl f5))] sz)) 0 0 (va_A [(h0, .inr (9, [.int v0_0, .ref r0_1, .ref r0_2, .ref r0_3, .ref r0_4, .int v0_5, .ref r0_6, .ref r0_7, .ref r0_8])), (r0_6, .inr (4, [.int v1_0, .int v1_1, .ref r1_2, .ref r1_3, .ref r1_4, .ref r1_5, .ref r1_6, .ref r1_7, .ref r1_8, .ref r1_9])), (r1_8, .inl (k2, 28, .inl f2)), (r0_7, .inr (2, [.int v3_0, .int v3_1, .int v3_2, .ref r3_3, .ref r3_4, .ref r3_5])), (r3_3, .inl (k4, 14, .inl f4)), (h1, .inl (k5, 14, .inl f5))] sz) := by
  refine Met.ofW (cc := cX9_castsOf) (maxL := 6) (ret := (some .int)) (by decide +kernel) rfl ?_
  intro p e s m args below meth c s₁ B hml hv
  obtain ⟨rfl, hsz, hP, hK, hD0⟩ := hv
  have hx := B.exec
  have hb := B.bytes
  have hr := B.returns
  have hts := atoms_spec (ws := wsX9_castsOf) B.pre
  have hown : s.vm.findClass RX9 = some m.cls := findClass_of_methodNamed B.named
  have hlocks := B.notSynchronized
  subst hsz
  have hD := hD0.self (sz := s.heap.size)
  generalize hAe : va_A [(h0, .inr (9, [.int v0_0, .ref r0_1, .ref r0_2, .ref r0_3, .ref r0_4, .int v0_5, .ref r0_6, .ref r0_7, .ref r0_8])), (r0_6, .inr (4, [.int v1_0, .int v1_1, .ref r1_2, .ref r1_3, .ref r1_4, .ref r1_5, .ref r1_6, .ref r1_7, .ref r1_8, .ref r1_9])), (r1_8, .inl (k2, 28, .inl f2)), (r0_7, .inr (2, [.int v3_0, .int v3_1, .int v3_2, .ref r3_3, .ref r3_4, .ref r3_5])), (r3_3, .inl (k4, 14, .inl f4)), (h1, .inl (k5, 14, .inl f5))] s.heap.size = A at hD ⊢
  have hA : ∀ q : Nat, s.heap.size ≤ q → A q := fun q h => by rw [← hAe]; exact Or.inr h
  have hS : va_S A s.heap s.heap [] := va_S.rf
  have hP : va_P (dC, dI) vwCl [(h0, .inr (9, [.int v0_0, .ref r0_1, .ref r0_2, .ref r0_3, .ref r0_4, .int v0_5, .ref r0_6, .ref r0_7, .ref r0_8])), (r0_6, .inr (4, [.int v1_0, .int v1_1, .ref r1_2, .ref r1_3, .ref r1_4, .ref r1_5, .ref r1_6, .ref r1_7, .ref r1_8, .ref r1_9])), (r1_8, .inl (k2, 28, .inl f2)), (r0_7, .inr (2, [.int v3_0, .int v3_1, .int v3_2, .ref r3_3, .ref r3_4, .ref r3_5])), (r3_3, .inl (k4, 14, .inl f4)), (h1, .inl (k5, 14, .inl f5))] s.heap := hP
  have hl := lv_entry ([.ref h0, .ref h1]) (n := 6) (Nat.le_of_ble_eq_true rfl)
  rw [lg_entry_eq]
  generalize (lg_sl ([.ref h0, .ref h1]) ++ List.replicate (6 - (lg_sl ([.ref h0, .ref h1])).length) Slot.unset).toArray = ls at hl ⊢
  have hl : lv_has ls 6 [(0, .ref h0), (1, .ref h1)] := hl
  generalize hQ : MQ below (va_Qi (fun (r : Int32) (u : zV) => True) (fun u t => va_P (dC, dI) vwCl [(h0, .inr (9, [.int v0_0, .ref r0_1, .ref r0_2, .ref r0_3, .ref r0_4, .int v0_5, .ref r0_6, .ref r0_7, .ref r0_8])), (r0_6, .inr (4, [.int v1_0, .int v1_1, .ref r1_2, .ref r1_3, .ref r1_4, .ref r1_5, .ref r1_6, .ref r1_7, .ref r1_8, .ref r1_9])), (r1_8, .inl (k2, 28, .inl f2)), (r0_7, .inr (2, [.int v3_0, .int v3_1, .int v3_2, .ref r3_3, .ref r3_4, .ref r3_5])), (r3_3, .inl (k4, 14, .inl f4)), (h1, .inl (k5, 14, .inl f5))] t.heap ∧ va_K (dC, dI) vwCl [(k2, .int), (k4, .int), (k5, .int)] t ∧ va_D A [(h0, .inr (9, [.int v0_0, .ref r0_1, .ref r0_2, .ref r0_3, .ref r0_4, .int v0_5, .ref r0_6, .ref r0_7, .ref r0_8])), (r0_6, .inr (4, [.int v1_0, .int v1_1, .ref r1_2, .ref r1_3, .ref r1_4, .ref r1_5, .ref r1_6, .ref r1_7, .ref r1_8, .ref r1_9])), (r1_8, .inl (k2, 28, .inl f2)), (r0_7, .inr (2, [.int v3_0, .int v3_1, .int v3_2, .ref r3_3, .ref r3_4, .ref r3_5])), (r3_3, .inl (k4, 14, .inl f4)), (h1, .inl (k5, 14, .inl f5))]) A) ([.ref h0, .ref h1] : List Value).toArray s 0 0 A = Q
  refine lv_iconst (v := 0) hx hb dX9_castsOf_0 (by decide +kernel) ?_
  refine lv_istore_n (lv' := [(2, .int 0), (0, .ref h0), (1, .ref h1)]) hx hb dX9_castsOf_1 rfl hl (by decide) rfl (fun ls hl => ?_)
  refine lv_iconst (v := 0) hx hb dX9_castsOf_2 (by decide +kernel) ?_
  refine lv_istore_n (lv' := [(3, .int 0), (2, .int 0), (0, .ref h0), (1, .ref h1)]) hx hb dX9_castsOf_3 rfl hl (by decide) rfl (fun ls hl => ?_)
  have lp4 : ∀ (n : Nat) (y4_2 : Int32) (y4_3 : Int32) (H : Heap) (locs : List Loc) (ls : Array Slot), (0 : Int) ≤ y4_3.toInt + (0) → (y4_3.toInt : Int) ≤ 0 + (14) → (y4_3.toInt : Int) ≤ v1_0.toInt + (0) → 15 - y4_3.toInt < n → va_P (dC, dI) vwCl [(h0, .inr (9, [.int v0_0, .ref r0_1, .ref r0_2, .ref r0_3, .ref r0_4, .int v0_5, .ref r0_6, .ref r0_7, .ref r0_8])), (r0_6, .inr (4, [.int v1_0, .int v1_1, .ref r1_2, .ref r1_3, .ref r1_4, .ref r1_5, .ref r1_6, .ref r1_7, .ref r1_8, .ref r1_9])), (r1_8, .inl (k2, 28, .inl f2)), (r0_7, .inr (2, [.int v3_0, .int v3_1, .int v3_2, .ref r3_3, .ref r3_4, .ref r3_5])), (r3_3, .inl (k4, 14, .inl f4)), (h1, .inl (k5, 14, .inl f5))] H → va_D A [(h0, .inr (9, [.int v0_0, .ref r0_1, .ref r0_2, .ref r0_3, .ref r0_4, .int v0_5, .ref r0_6, .ref r0_7, .ref r0_8])), (r0_6, .inr (4, [.int v1_0, .int v1_1, .ref r1_2, .ref r1_3, .ref r1_4, .ref r1_5, .ref r1_6, .ref r1_7, .ref r1_8, .ref r1_9])), (r1_8, .inl (k2, 28, .inl f2)), (r0_7, .inr (2, [.int v3_0, .int v3_1, .int v3_2, .ref r3_3, .ref r3_4, .ref r3_5])), (r3_3, .inl (k4, 14, .inl f4)), (h1, .inl (k5, 14, .inl f5))] → va_S A s.heap H locs → lv_has ls 6 [(3, .int y4_3), (2, .int y4_2), (0, .ref h0), (1, .ref h1)] → W p l e (headSpec wsX9_castsOf ({ frames := 1, cells := 0, slots := 0, locals := 23 })).room s m ([.ref h0, .ref h1] : List Value).toArray below meth c H locs 0 0 Q (F0 m 4 ls []) := by
    intro n
    induction n with
    | zero =>
      intro y4_2 y4_3 H locs ls hz4_0 hz4_1 hz4_2  hmeas hP hD hS hl
      exfalso; omega
    | succ n ih4 =>
      intro y4_2 y4_3 H locs ls hz4_0 hz4_1 hz4_2  hmeas hP hD hS hl
      refine lv_iload_n hx hb dX9_castsOf_4 rfl (lv_at hl 0 rfl) ?_
      refine lv_aload_n hx hb dX9_castsOf_5 rfl (lv_at hl 2 rfl) ?_
      refine va_get (D := (dC, dI)) (ci := 9) (v := .ref r0_6) (C := RX9) (T := TX9) (N := 9) hx hb hts zn_X9_castsOf_X9 hown hK hP 0 rfl rfl 6 (by decide) (hts (.fieldLink RX9 27 "ShortEnough$Task" "numbers" "LShortEnough$Numbers;") zw_X9_castsOf_98) (fun _ h9 => h9) rfl dX9_castsOf_6 ?_
      refine va_get (D := (dC, dI)) (ci := 4) (v := .int v1_0) (C := RX4) (T := TX4) (N := 10) hx hb hts zn_X9_castsOf_X4 hown hK hP 1 rfl rfl 0 (by decide) (hts (.fieldLink RX9 52 "ShortEnough$Numbers" "count" "I") zw_X9_castsOf_100) (fun _ h9 => h9) rfl dX9_castsOf_9 ?_
      refine lv_icmp_ge (tgt := 73) hx hb dX9_castsOf_12 (by decide) (fun c_1 => ?_) (fun c_1 => ?_)
      · have oc_1 := zk_le rfl rfl c_1
        refine lv_iload_n hx hb dX9_castsOf_73 rfl (lv_at hl 1 rfl) ?_
        have hP9 := hP.sub (ws' := [(h0, .inr (9, [.int v0_0, .ref r0_1, .ref r0_2, .ref r0_3, .ref r0_4, .int v0_5, .ref r0_6, .ref r0_7, .ref r0_8])), (r0_6, .inr (4, [.int v1_0, .int v1_1, .ref r1_2, .ref r1_3, .ref r1_4, .ref r1_5, .ref r1_6, .ref r1_7, .ref r1_8, .ref r1_9])), (r1_8, .inl (k2, 28, .inl f2)), (r0_7, .inr (2, [.int v3_0, .int v3_1, .int v3_2, .ref r3_3, .ref r3_4, .ref r3_5])), (r3_3, .inl (k4, 14, .inl f4)), (h1, .inl (k5, 14, .inl f5))]) [0, 1, 2, 3, 4, 5] rfl
        have hD9 := hD.sub (ws' := [(h0, .inr (9, [.int v0_0, .ref r0_1, .ref r0_2, .ref r0_3, .ref r0_4, .int v0_5, .ref r0_6, .ref r0_7, .ref r0_8])), (r0_6, .inr (4, [.int v1_0, .int v1_1, .ref r1_2, .ref r1_3, .ref r1_4, .ref r1_5, .ref r1_6, .ref r1_7, .ref r1_8, .ref r1_9])), (r1_8, .inl (k2, 28, .inl f2)), (r0_7, .inr (2, [.int v3_0, .int v3_1, .int v3_2, .ref r3_3, .ref r3_4, .ref r3_5])), (r3_3, .inl (k4, 14, .inl f4)), (h1, .inl (k5, 14, .inl f5))]) [0, 1, 2, 3, 4, 5] (by decide) rfl
        have hK9 := hK.sub (tys' := [(k2, .int), (k4, .int), (k5, .int)]) [0, 1, 2] rfl
        rw [← hQ]
        exact W.iret (v := y4_2) hx hb hr (fun t ht hW => ⟨⟨y4_2, ((fun k => ([] : List Int32).getD k 0), (fun k => ([] : List (Nat → Int32)).getD k (fun _ => 0)), (fun k => ([] : List (Nat → Int64)).getD k (fun _ => 0))), rfl, trivial, by rw [ht]; exact hP9, va_K.moved hW.alike hK9, hD9⟩, hS.F ht⟩) hS.2.2 dX9_castsOf_74
      have oc_1 := zk_nle rfl rfl c_1
      refine lv_iconst (v := 0) hx hb dX9_castsOf_15 (by decide +kernel) ?_
      refine lv_istore (lv' := [(4, .int 0), (3, .int y4_3), (2, .int y4_2), (0, .ref h0), (1, .ref h1)]) hx hb dX9_castsOf_16 hl (by decide) rfl (fun ls hl => ?_)
      have lp18 : ∀ (n : Nat) (y18_2 : Int32) (y18_4 : Int32) (H : Heap) (locs : List Loc) (ls : Array Slot), (0 : Int) ≤ y18_4.toInt + (0) → (y18_4.toInt : Int) ≤ 0 + (2) → 3 - y18_4.toInt < n → va_P (dC, dI) vwCl [(h0, .inr (9, [.int v0_0, .ref r0_1, .ref r0_2, .ref r0_3, .ref r0_4, .int v0_5, .ref r0_6, .ref r0_7, .ref r0_8])), (r0_6, .inr (4, [.int v1_0, .int v1_1, .ref r1_2, .ref r1_3, .ref r1_4, .ref r1_5, .ref r1_6, .ref r1_7, .ref r1_8, .ref r1_9])), (r1_8, .inl (k2, 28, .inl f2)), (r0_7, .inr (2, [.int v3_0, .int v3_1, .int v3_2, .ref r3_3, .ref r3_4, .ref r3_5])), (r3_3, .inl (k4, 14, .inl f4)), (h1, .inl (k5, 14, .inl f5))] H → va_D A [(h0, .inr (9, [.int v0_0, .ref r0_1, .ref r0_2, .ref r0_3, .ref r0_4, .int v0_5, .ref r0_6, .ref r0_7, .ref r0_8])), (r0_6, .inr (4, [.int v1_0, .int v1_1, .ref r1_2, .ref r1_3, .ref r1_4, .ref r1_5, .ref r1_6, .ref r1_7, .ref r1_8, .ref r1_9])), (r1_8, .inl (k2, 28, .inl f2)), (r0_7, .inr (2, [.int v3_0, .int v3_1, .int v3_2, .ref r3_3, .ref r3_4, .ref r3_5])), (r3_3, .inl (k4, 14, .inl f4)), (h1, .inl (k5, 14, .inl f5))] → va_S A s.heap H locs → lv_has ls 6 [(4, .int y18_4), (3, .int y4_3), (2, .int y18_2), (0, .ref h0), (1, .ref h1)] → W p l e (headSpec wsX9_castsOf ({ frames := 1, cells := 0, slots := 0, locals := 23 })).room s m ([.ref h0, .ref h1] : List Value).toArray below meth c H locs 0 0 Q (F0 m 18 ls []) := by
        intro n
        induction n with
        | zero =>
          intro y18_2 y18_4 H locs ls hz18_0 hz18_1  hmeas hP hD hS hl
          exfalso; omega
        | succ n ih18 =>
          intro y18_2 y18_4 H locs ls hz18_0 hz18_1  hmeas hP hD hS hl
          refine lv_iload hx hb dX9_castsOf_18 (lv_at hl 0 rfl) ?_
          refine lv_iconst (v := 2) hx hb dX9_castsOf_20 (by decide +kernel) ?_
          refine lv_icmp_ge (tgt := 67) hx hb dX9_castsOf_21 (by decide) (fun c_2 => ?_) (fun c_2 => ?_)
          · have oc_2 := zk_le (by decide +kernel : (2 : Int32).toInt = 2) rfl c_2
            obtain ⟨x_3, ex_3⟩ : ∃ y : Int32, y = y4_3 + 1 := ⟨_, rfl⟩
            refine lv_iinc (v := x_3) (lv' := [(3, .int x_3), (4, .int y18_4), (2, .int y18_2), (0, .ref h0), (1, .ref h1)]) hx hb dX9_castsOf_67 hl (k := 1) rfl (by rw [ex_3]; rfl) (by decide) rfl (fun ls hl => ?_)
            have hx_3 := zo_add ex_3 rfl (by decide +kernel : (1 : Int32).toInt = 1) (by omega)
            refine lv_goto (tgt := 4) hx hb dX9_castsOf_70 (by decide) ?_
            exact ih4  y18_2 x_3 H locs ls (by omega) (by omega) (by omega)  (by omega) hP hD hS (lv_sub hl [0, 2, 3, 4] rfl)
          have oc_2 := zk_nle (by decide +kernel : (2 : Int32).toInt = 2) rfl c_2
          refine lv_aload_n hx hb dX9_castsOf_24 rfl (lv_at hl 3 rfl) ?_
          refine va_get (D := (dC, dI)) (ci := 9) (v := .ref r0_6) (C := RX9) (T := TX9) (N := 9) hx hb hts zn_X9_castsOf_X9 hown hK hP 0 rfl rfl 6 (by decide) (hts (.fieldLink RX9 27 "ShortEnough$Task" "numbers" "LShortEnough$Numbers;") zw_X9_castsOf_98) (fun _ h9 => h9) rfl dX9_castsOf_25 ?_
          refine lv_iload_n hx hb dX9_castsOf_28 rfl (lv_at hl 1 rfl) ?_
          refine lv_iload hx hb dX9_castsOf_29 (lv_at hl 0 rfl) ?_
          have hPc := hP.sub (ws' := [(r0_6, .inr (4, [.int v1_0, .int v1_1, .ref r1_2, .ref r1_3, .ref r1_4, .ref r1_5, .ref r1_6, .ref r1_7, .ref r1_8, .ref r1_9])), (r1_8, .inl (k2, 28, .inl f2))]) [1, 2] rfl
          have hDc := hD.sub (ws' := [(r0_6, .inr (4, [.int v1_0, .int v1_1, .ref r1_2, .ref r1_3, .ref r1_4, .ref r1_5, .ref r1_6, .ref r1_7, .ref r1_8, .ref r1_9])), (r1_8, .inl (k2, 28, .inl f2))]) [1, 2] (by decide) rfl
          have hKc := hK.sub (tys' := [(k2, .int)]) [0] rfl
          have hFc := va_free (wc := [(r0_6, .inr (4, [.int v1_0, .int v1_1, .ref r1_2, .ref r1_3, .ref r1_4, .ref r1_5, .ref r1_6, .ref r1_7, .ref r1_8, .ref r1_9])), (r1_8, .inl (k2, 28, .inl f2))]) hD hS hA [1, 2] rfl
          refine va_calli (va_runV (As := [.int y4_3, .int y18_4]) (rest := []) ⟨hx, hb, hml, hown, hts⟩ (zs_X4_madeOf l dC dI r0_6 y4_3 y18_4 v1_0 v1_1 r1_2 r1_3 r1_4 r1_5 r1_6 r1_7 r1_8 r1_9 k2 f2 (by omega) H.size) (cwV 2 hts gX9_castsOf_X4_madeOf rfl rfl rfl (by decide +kernel) ⟨Nat.le_of_ble_eq_true rfl, Nat.le_of_ble_eq_true rfl⟩) ⟨fun a U g mk q => by obtain ⟨q0, q1, qP, qK, qD⟩ := q; exact ⟨q0, q1, qP, va_K.moved (u := U) (U := U.calling g mk a) (Vm.Alike.refl U.vm) qK, qD⟩, va_recv hKc hPc (ci := 4) (q0 := 0) rfl rfl, fun U hU hW => ⟨rfl, by rw [hU], by rw [hU]; exact hPc, va_K.moved hW.alike hKc, hDc.weaken (fun _ _ _ _ => trivial)⟩⟩ rfl rfl hl.1 rfl (lv_room (Nat.le_of_ble_eq_true rfl)) dX9_castsOf_31 ⟨Nat.le_of_ble_eq_true rfl, Nat.le_of_ble_eq_true rfl⟩) hS (fun q _ h => hFc q h) hFc (fun r_4 u_5 t H1 locs ht hvm hw_6 hB hz1 hk1 hS => ?_)
          obtain ⟨hP1, hK1, hD1⟩ := hB
          rw [ht] at hP1
          have hK1 := va_K.moved hvm.symm hK1
          obtain ⟨hP, hD⟩ := va_join (wr := [(h0, .inr (9, [.int v0_0, .ref r0_1, .ref r0_2, .ref r0_3, .ref r0_4, .int v0_5, .ref r0_6, .ref r0_7, .ref r0_8])), (r0_7, .inr (2, [.int v3_0, .int v3_1, .int v3_2, .ref r3_3, .ref r3_4, .ref r3_5])), (r3_3, .inl (k4, 14, .inl f4)), (h1, .inl (k5, 14, .inl f5))]) (w1 := [(r0_6, .inr (4, [.int v1_0, .int v1_1, .ref r1_2, .ref r1_3, .ref r1_4, .ref r1_5, .ref r1_6, .ref r1_7, .ref r1_8, .ref r1_9])), (r1_8, .inl (k2, 28, .inl f2))]) hP hD [1, 2] [0, 3, 4, 5] rfl rfl (by decide) (by decide) hk1 hFc hP1 hD1
          have hK := hK
          generalize H1 = H at hP hS ⊢
          have hP := hP.sub (ws' := [(h0, .inr (9, [.int v0_0, .ref r0_1, .ref r0_2, .ref r0_3, .ref r0_4, .int v0_5, .ref r0_6, .ref r0_7, .ref r0_8])), (r0_6, .inr (4, [.int v1_0, .int v1_1, .ref r1_2, .ref r1_3, .ref r1_4, .ref r1_5, .ref r1_6, .ref r1_7, .ref r1_8, .ref r1_9])), (r1_8, .inl (k2, 28, .inl f2)), (r0_7, .inr (2, [.int v3_0, .int v3_1, .int v3_2, .ref r3_3, .ref r3_4, .ref r3_5])), (r3_3, .inl (k4, 14, .inl f4)), (h1, .inl (k5, 14, .inl f5))]) [0, 4, 5, 1, 2, 3] rfl
          have hD := hD.sub (ws' := [(h0, .inr (9, [.int v0_0, .ref r0_1, .ref r0_2, .ref r0_3, .ref r0_4, .int v0_5, .ref r0_6, .ref r0_7, .ref r0_8])), (r0_6, .inr (4, [.int v1_0, .int v1_1, .ref r1_2, .ref r1_3, .ref r1_4, .ref r1_5, .ref r1_6, .ref r1_7, .ref r1_8, .ref r1_9])), (r1_8, .inl (k2, 28, .inl f2)), (r0_7, .inr (2, [.int v3_0, .int v3_1, .int v3_2, .ref r3_3, .ref r3_4, .ref r3_5])), (r3_3, .inl (k4, 14, .inl f4)), (h1, .inl (k5, 14, .inl f5))]) [0, 4, 5, 1, 2, 3] (by decide) rfl
          have hP : va_P (dC, dI) vwCl [(h0, .inr (9, [.int v0_0, .ref r0_1, .ref r0_2, .ref r0_3, .ref r0_4, .int v0_5, .ref r0_6, .ref r0_7, .ref r0_8])), (r0_6, .inr (4, [.int v1_0, .int v1_1, .ref r1_2, .ref r1_3, .ref r1_4, .ref r1_5, .ref r1_6, .ref r1_7, .ref r1_8, .ref r1_9])), (r1_8, .inl (k2, 28, .inl f2)), (r0_7, .inr (2, [.int v3_0, .int v3_1, .int v3_2, .ref r3_3, .ref r3_4, .ref r3_5])), (r3_3, .inl (k4, 14, .inl f4)), (h1, .inl (k5, 14, .inl f5))] H := hP
          have hD : va_D A [(h0, .inr (9, [.int v0_0, .ref r0_1, .ref r0_2, .ref r0_3, .ref r0_4, .int v0_5, .ref r0_6, .ref r0_7, .ref r0_8])), (r0_6, .inr (4, [.int v1_0, .int v1_1, .ref r1_2, .ref r1_3, .ref r1_4, .ref r1_5, .ref r1_6, .ref r1_7, .ref r1_8, .ref r1_9])), (r1_8, .inl (k2, 28, .inl f2)), (r0_7, .inr (2, [.int v3_0, .int v3_1, .int v3_2, .ref r3_3, .ref r3_4, .ref r3_5])), (r3_3, .inl (k4, 14, .inl f4)), (h1, .inl (k5, 14, .inl f5))] := hD
          obtain ⟨hir_4, -⟩ := hw_6
          refine lv_istore (lv' := [(5, .int r_4), (4, .int y18_4), (3, .int y4_3), (2, .int y18_2), (0, .ref h0), (1, .ref h1)]) hx hb dX9_castsOf_34 hl (by decide) rfl (fun ls hl => ?_)
          refine lv_iload hx hb dX9_castsOf_36 (lv_at hl 0 rfl) ?_
          refine lv_iconst (v := (-1)) hx hb dX9_castsOf_38 (by decide +kernel) ?_
          refine lv_icmp_eq (tgt := 61) hx hb dX9_castsOf_39 (by decide) (fun c_7 => ?_) (fun c_7 => ?_)
          · have oc_7 := zk_eq rfl (by decide +kernel : ((-1) : Int32).toInt = -1) c_7
            obtain ⟨x_8, ex_8⟩ : ∃ y : Int32, y = y18_4 + 1 := ⟨_, rfl⟩
            refine lv_iinc (v := x_8) (lv' := [(4, .int x_8), (5, .int r_4), (3, .int y4_3), (2, .int y18_2), (0, .ref h0), (1, .ref h1)]) hx hb dX9_castsOf_61 hl (k := 1) rfl (by rw [ex_8]; rfl) (by decide) rfl (fun ls hl => ?_)
            have hx_8 := zo_add ex_8 rfl (by decide +kernel : (1 : Int32).toInt = 1) (by omega)
            refine lv_goto (tgt := 18) hx hb dX9_castsOf_64 (by decide) ?_
            exact ih18  y18_2 x_8 H locs ls (by omega) (by omega)  (by omega) hP hD hS (lv_sub hl [0, 2, 3, 4, 5] rfl)
          have oc_7 := zk_ne rfl (by decide +kernel : ((-1) : Int32).toInt = -1) c_7
          refine lv_aload_n hx hb dX9_castsOf_42 rfl (lv_at hl 4 rfl) ?_
          refine lv_aload_n hx hb dX9_castsOf_43 rfl (lv_at hl 5 rfl) ?_
          refine lv_iload hx hb dX9_castsOf_44 (lv_at hl 0 rfl) ?_
          have hPc := hP.sub (ws' := [(h0, .inr (9, [.int v0_0, .ref r0_1, .ref r0_2, .ref r0_3, .ref r0_4, .int v0_5, .ref r0_6, .ref r0_7, .ref r0_8])), (r0_6, .inr (4, [.int v1_0, .int v1_1, .ref r1_2, .ref r1_3, .ref r1_4, .ref r1_5, .ref r1_6, .ref r1_7, .ref r1_8, .ref r1_9])), (r0_7, .inr (2, [.int v3_0, .int v3_1, .int v3_2, .ref r3_3, .ref r3_4, .ref r3_5])), (r3_3, .inl (k4, 14, .inl f4)), (h1, .inl (k5, 14, .inl f5))]) [0, 1, 3, 4, 5] rfl
          have hDc := hD.sub (ws' := [(h0, .inr (9, [.int v0_0, .ref r0_1, .ref r0_2, .ref r0_3, .ref r0_4, .int v0_5, .ref r0_6, .ref r0_7, .ref r0_8])), (r0_6, .inr (4, [.int v1_0, .int v1_1, .ref r1_2, .ref r1_3, .ref r1_4, .ref r1_5, .ref r1_6, .ref r1_7, .ref r1_8, .ref r1_9])), (r0_7, .inr (2, [.int v3_0, .int v3_1, .int v3_2, .ref r3_3, .ref r3_4, .ref r3_5])), (r3_3, .inl (k4, 14, .inl f4)), (h1, .inl (k5, 14, .inl f5))]) [0, 1, 3, 4, 5] (by decide) rfl
          have hKc := hK.sub (tys' := [(k4, .int), (k5, .int)]) [1, 2] rfl
          have hFc := va_free (wc := [(h0, .inr (9, [.int v0_0, .ref r0_1, .ref r0_2, .ref r0_3, .ref r0_4, .int v0_5, .ref r0_6, .ref r0_7, .ref r0_8])), (r0_6, .inr (4, [.int v1_0, .int v1_1, .ref r1_2, .ref r1_3, .ref r1_4, .ref r1_5, .ref r1_6, .ref r1_7, .ref r1_8, .ref r1_9])), (r0_7, .inr (2, [.int v3_0, .int v3_1, .int v3_2, .ref r3_3, .ref r3_4, .ref r3_5])), (r3_3, .inl (k4, 14, .inl f4)), (h1, .inl (k5, 14, .inl f5))]) hD hS hA [0, 1, 3, 4, 5] rfl
          refine va_calli (va_runV (As := [.ref h1, .int r_4]) (rest := []) ⟨hx, hb, hml, hown, hts⟩ (zs_X9_formatOf l dC dI h0 h1 r_4 v0_0 r0_1 r0_2 r0_3 r0_4 v0_5 r0_6 r0_7 r0_8 v1_0 v1_1 r1_2 r1_3 r1_4 r1_5 r1_6 r1_7 r1_8 r1_9 v3_0 v3_1 v3_2 r3_3 r3_4 r3_5 k4 f4 k5 f5 (by omega) (by omega) (by omega) (by omega) hf4 H.size) (cwV 2 hts gX9_castsOf_X9_formatOf rfl rfl rfl (by decide +kernel) ⟨Nat.le_of_ble_eq_true rfl, Nat.le_of_ble_eq_true rfl⟩) ⟨fun a U g mk q => by obtain ⟨q0, q1, qP, qK, qD⟩ := q; exact ⟨q0, q1, qP, va_K.moved (u := U) (U := U.calling g mk a) (Vm.Alike.refl U.vm) qK, qD⟩, va_recv hKc hPc (ci := 9) (q0 := 0) rfl rfl, fun U hU hW => ⟨rfl, by rw [hU], by rw [hU]; exact hPc, va_K.moved hW.alike hKc, hDc.weaken (fun _ _ _ _ => trivial)⟩⟩ rfl rfl hl.1 rfl (lv_room (Nat.le_of_ble_eq_true rfl)) dX9_castsOf_46 ⟨Nat.le_of_ble_eq_true rfl, Nat.le_of_ble_eq_true rfl⟩) hS (fun q _ h => hFc q h) hFc (fun r_9 u_10 t H1 locs ht hvm hw_11 hB hz1 hk1 hS => ?_)
          obtain ⟨hP1, hK1, hD1⟩ := hB
          rw [ht] at hP1
          have hK1 := va_K.moved hvm.symm hK1
          obtain ⟨hP, hD⟩ := va_join (wr := [(r1_8, .inl (k2, 28, .inl f2))]) (w1 := [(h0, .inr (9, [.int v0_0, .ref r0_1, .ref r0_2, .ref r0_3, .ref r0_4, .int v0_5, .ref r0_6, .ref r0_7, .ref r0_8])), (r0_6, .inr (4, [.int v1_0, .int v1_1, .ref r1_2, .ref r1_3, .ref r1_4, .ref r1_5, .ref r1_6, .ref r1_7, .ref r1_8, .ref r1_9])), (r0_7, .inr (2, [.int v3_0, .int v3_1, .int v3_2, .ref r3_3, .ref r3_4, .ref r3_5])), (r3_3, .inl (k4, 14, .inl f4)), (h1, .inl (k5, 14, .inl f5))]) hP hD [0, 1, 3, 4, 5] [2] rfl rfl (by decide) (by decide) hk1 hFc hP1 hD1
          have hK := hK
          generalize H1 = H at hP hS ⊢
          have hP := hP.sub (ws' := [(h0, .inr (9, [.int v0_0, .ref r0_1, .ref r0_2, .ref r0_3, .ref r0_4, .int v0_5, .ref r0_6, .ref r0_7, .ref r0_8])), (r0_6, .inr (4, [.int v1_0, .int v1_1, .ref r1_2, .ref r1_3, .ref r1_4, .ref r1_5, .ref r1_6, .ref r1_7, .ref r1_8, .ref r1_9])), (r1_8, .inl (k2, 28, .inl f2)), (r0_7, .inr (2, [.int v3_0, .int v3_1, .int v3_2, .ref r3_3, .ref r3_4, .ref r3_5])), (r3_3, .inl (k4, 14, .inl f4)), (h1, .inl (k5, 14, .inl f5))]) [1, 2, 0, 3, 4, 5] rfl
          have hD := hD.sub (ws' := [(h0, .inr (9, [.int v0_0, .ref r0_1, .ref r0_2, .ref r0_3, .ref r0_4, .int v0_5, .ref r0_6, .ref r0_7, .ref r0_8])), (r0_6, .inr (4, [.int v1_0, .int v1_1, .ref r1_2, .ref r1_3, .ref r1_4, .ref r1_5, .ref r1_6, .ref r1_7, .ref r1_8, .ref r1_9])), (r1_8, .inl (k2, 28, .inl f2)), (r0_7, .inr (2, [.int v3_0, .int v3_1, .int v3_2, .ref r3_3, .ref r3_4, .ref r3_5])), (r3_3, .inl (k4, 14, .inl f4)), (h1, .inl (k5, 14, .inl f5))]) [1, 2, 0, 3, 4, 5] (by decide) rfl
          have hP : va_P (dC, dI) vwCl [(h0, .inr (9, [.int v0_0, .ref r0_1, .ref r0_2, .ref r0_3, .ref r0_4, .int v0_5, .ref r0_6, .ref r0_7, .ref r0_8])), (r0_6, .inr (4, [.int v1_0, .int v1_1, .ref r1_2, .ref r1_3, .ref r1_4, .ref r1_5, .ref r1_6, .ref r1_7, .ref r1_8, .ref r1_9])), (r1_8, .inl (k2, 28, .inl f2)), (r0_7, .inr (2, [.int v3_0, .int v3_1, .int v3_2, .ref r3_3, .ref r3_4, .ref r3_5])), (r3_3, .inl (k4, 14, .inl f4)), (h1, .inl (k5, 14, .inl f5))] H := hP
          have hD : va_D A [(h0, .inr (9, [.int v0_0, .ref r0_1, .ref r0_2, .ref r0_3, .ref r0_4, .int v0_5, .ref r0_6, .ref r0_7, .ref r0_8])), (r0_6, .inr (4, [.int v1_0, .int v1_1, .ref r1_2, .ref r1_3, .ref r1_4, .ref r1_5, .ref r1_6, .ref r1_7, .ref r1_8, .ref r1_9])), (r1_8, .inl (k2, 28, .inl f2)), (r0_7, .inr (2, [.int v3_0, .int v3_1, .int v3_2, .ref r3_3, .ref r3_4, .ref r3_5])), (r3_3, .inl (k4, 14, .inl f4)), (h1, .inl (k5, 14, .inl f5))] := hD
          obtain ⟨hir_9, -⟩ := hw_11
          refine lv_aload_n hx hb dX9_castsOf_49 rfl (lv_at hl 4 rfl) ?_
          refine lv_aload_n hx hb dX9_castsOf_50 rfl (lv_at hl 5 rfl) ?_
          refine lv_iload_n hx hb dX9_castsOf_51 rfl (lv_at hl 2 rfl) ?_
          have hPc := hP.sub (ws' := [(h0, .inr (9, [.int v0_0, .ref r0_1, .ref r0_2, .ref r0_3, .ref r0_4, .int v0_5, .ref r0_6, .ref r0_7, .ref r0_8])), (r0_6, .inr (4, [.int v1_0, .int v1_1, .ref r1_2, .ref r1_3, .ref r1_4, .ref r1_5, .ref r1_6, .ref r1_7, .ref r1_8, .ref r1_9])), (r0_7, .inr (2, [.int v3_0, .int v3_1, .int v3_2, .ref r3_3, .ref r3_4, .ref r3_5])), (r3_3, .inl (k4, 14, .inl f4)), (h1, .inl (k5, 14, .inl f5))]) [0, 1, 3, 4, 5] rfl
          have hDc := hD.sub (ws' := [(h0, .inr (9, [.int v0_0, .ref r0_1, .ref r0_2, .ref r0_3, .ref r0_4, .int v0_5, .ref r0_6, .ref r0_7, .ref r0_8])), (r0_6, .inr (4, [.int v1_0, .int v1_1, .ref r1_2, .ref r1_3, .ref r1_4, .ref r1_5, .ref r1_6, .ref r1_7, .ref r1_8, .ref r1_9])), (r0_7, .inr (2, [.int v3_0, .int v3_1, .int v3_2, .ref r3_3, .ref r3_4, .ref r3_5])), (r3_3, .inl (k4, 14, .inl f4)), (h1, .inl (k5, 14, .inl f5))]) [0, 1, 3, 4, 5] (by decide) rfl
          have hKc := hK.sub (tys' := [(k4, .int), (k5, .int)]) [1, 2] rfl
          have hFc := va_free (wc := [(h0, .inr (9, [.int v0_0, .ref r0_1, .ref r0_2, .ref r0_3, .ref r0_4, .int v0_5, .ref r0_6, .ref r0_7, .ref r0_8])), (r0_6, .inr (4, [.int v1_0, .int v1_1, .ref r1_2, .ref r1_3, .ref r1_4, .ref r1_5, .ref r1_6, .ref r1_7, .ref r1_8, .ref r1_9])), (r0_7, .inr (2, [.int v3_0, .int v3_1, .int v3_2, .ref r3_3, .ref r3_4, .ref r3_5])), (r3_3, .inl (k4, 14, .inl f4)), (h1, .inl (k5, 14, .inl f5))]) hD hS hA [0, 1, 3, 4, 5] rfl
          refine va_calli (va_runV (As := [.ref h1, .int y4_3]) (rest := [.int r_9]) ⟨hx, hb, hml, hown, hts⟩ (zs_X9_formatOf l dC dI h0 h1 y4_3 v0_0 r0_1 r0_2 r0_3 r0_4 v0_5 r0_6 r0_7 r0_8 v1_0 v1_1 r1_2 r1_3 r1_4 r1_5 r1_6 r1_7 r1_8 r1_9 v3_0 v3_1 v3_2 r3_3 r3_4 r3_5 k4 f4 k5 f5 (by omega) (by omega) (by omega) (by omega) hf4 H.size) (cwV 2 hts gX9_castsOf_X9_formatOf rfl rfl rfl (by decide +kernel) ⟨Nat.le_of_ble_eq_true rfl, Nat.le_of_ble_eq_true rfl⟩) ⟨fun a U g mk q => by obtain ⟨q0, q1, qP, qK, qD⟩ := q; exact ⟨q0, q1, qP, va_K.moved (u := U) (U := U.calling g mk a) (Vm.Alike.refl U.vm) qK, qD⟩, va_recv hKc hPc (ci := 9) (q0 := 0) rfl rfl, fun U hU hW => ⟨rfl, by rw [hU], by rw [hU]; exact hPc, va_K.moved hW.alike hKc, hDc.weaken (fun _ _ _ _ => trivial)⟩⟩ rfl rfl hl.1 rfl (lv_room (Nat.le_of_ble_eq_true rfl)) dX9_castsOf_52 ⟨Nat.le_of_ble_eq_true rfl, Nat.le_of_ble_eq_true rfl⟩) hS (fun q _ h => hFc q h) hFc (fun r_12 u_13 t H1 locs ht hvm hw_14 hB hz1 hk1 hS => ?_)
          obtain ⟨hP1, hK1, hD1⟩ := hB
          rw [ht] at hP1
          have hK1 := va_K.moved hvm.symm hK1
          obtain ⟨hP, hD⟩ := va_join (wr := [(r1_8, .inl (k2, 28, .inl f2))]) (w1 := [(h0, .inr (9, [.int v0_0, .ref r0_1, .ref r0_2, .ref r0_3, .ref r0_4, .int v0_5, .ref r0_6, .ref r0_7, .ref r0_8])), (r0_6, .inr (4, [.int v1_0, .int v1_1, .ref r1_2, .ref r1_3, .ref r1_4, .ref r1_5, .ref r1_6, .ref r1_7, .ref r1_8, .ref r1_9])), (r0_7, .inr (2, [.int v3_0, .int v3_1, .int v3_2, .ref r3_3, .ref r3_4, .ref r3_5])), (r3_3, .inl (k4, 14, .inl f4)), (h1, .inl (k5, 14, .inl f5))]) hP hD [0, 1, 3, 4, 5] [2] rfl rfl (by decide) (by decide) hk1 hFc hP1 hD1
          have hK := hK
          generalize H1 = H at hP hS ⊢
          have hP := hP.sub (ws' := [(h0, .inr (9, [.int v0_0, .ref r0_1, .ref r0_2, .ref r0_3, .ref r0_4, .int v0_5, .ref r0_6, .ref r0_7, .ref r0_8])), (r0_6, .inr (4, [.int v1_0, .int v1_1, .ref r1_2, .ref r1_3, .ref r1_4, .ref r1_5, .ref r1_6, .ref r1_7, .ref r1_8, .ref r1_9])), (r1_8, .inl (k2, 28, .inl f2)), (r0_7, .inr (2, [.int v3_0, .int v3_1, .int v3_2, .ref r3_3, .ref r3_4, .ref r3_5])), (r3_3, .inl (k4, 14, .inl f4)), (h1, .inl (k5, 14, .inl f5))]) [1, 2, 0, 3, 4, 5] rfl
          have hD := hD.sub (ws' := [(h0, .inr (9, [.int v0_0, .ref r0_1, .ref r0_2, .ref r0_3, .ref r0_4, .int v0_5, .ref r0_6, .ref r0_7, .ref r0_8])), (r0_6, .inr (4, [.int v1_0, .int v1_1, .ref r1_2, .ref r1_3, .ref r1_4, .ref r1_5, .ref r1_6, .ref r1_7, .ref r1_8, .ref r1_9])), (r1_8, .inl (k2, 28, .inl f2)), (r0_7, .inr (2, [.int v3_0, .int v3_1, .int v3_2, .ref r3_3, .ref r3_4, .ref r3_5])), (r3_3, .inl (k4, 14, .inl f4)), (h1, .inl (k5, 14, .inl f5))]) [1, 2, 0, 3, 4, 5] (by decide) rfl
          have hP : va_P (dC, dI) vwCl [(h0, .inr (9, [.int v0_0, .ref r0_1, .ref r0_2, .ref r0_3, .ref r0_4, .int v0_5, .ref r0_6, .ref r0_7, .ref r0_8])), (r0_6, .inr (4, [.int v1_0, .int v1_1, .ref r1_2, .ref r1_3, .ref r1_4, .ref r1_5, .ref r1_6, .ref r1_7, .ref r1_8, .ref r1_9])), (r1_8, .inl (k2, 28, .inl f2)), (r0_7, .inr (2, [.int v3_0, .int v3_1, .int v3_2, .ref r3_3, .ref r3_4, .ref r3_5])), (r3_3, .inl (k4, 14, .inl f4)), (h1, .inl (k5, 14, .inl f5))] H := hP
          have hD : va_D A [(h0, .inr (9, [.int v0_0, .ref r0_1, .ref r0_2, .ref r0_3, .ref r0_4, .int v0_5, .ref r0_6, .ref r0_7, .ref r0_8])), (r0_6, .inr (4, [.int v1_0, .int v1_1, .ref r1_2, .ref r1_3, .ref r1_4, .ref r1_5, .ref r1_6, .ref r1_7, .ref r1_8, .ref r1_9])), (r1_8, .inl (k2, 28, .inl f2)), (r0_7, .inr (2, [.int v3_0, .int v3_1, .int v3_2, .ref r3_3, .ref r3_4, .ref r3_5])), (r3_3, .inl (k4, 14, .inl f4)), (h1, .inl (k5, 14, .inl f5))] := hD
          obtain ⟨hir_12, -⟩ := hw_14
          refine lv_icmp_eq (tgt := 61) hx hb dX9_castsOf_55 (by decide) (fun c_15 => ?_) (fun c_15 => ?_)
          · have oc_15 := zk_eq rfl rfl c_15
            obtain ⟨x_16, ex_16⟩ : ∃ y : Int32, y = y18_4 + 1 := ⟨_, rfl⟩
            refine lv_iinc (v := x_16) (lv' := [(4, .int x_16), (5, .int r_4), (3, .int y4_3), (2, .int y18_2), (0, .ref h0), (1, .ref h1)]) hx hb dX9_castsOf_61 hl (k := 1) rfl (by rw [ex_16]; rfl) (by decide) rfl (fun ls hl => ?_)
            have hx_16 := zo_add ex_16 rfl (by decide +kernel : (1 : Int32).toInt = 1) (by omega)
            refine lv_goto (tgt := 18) hx hb dX9_castsOf_64 (by decide) ?_
            exact ih18  y18_2 x_16 H locs ls (by omega) (by omega)  (by omega) hP hD hS (lv_sub hl [0, 2, 3, 4, 5] rfl)
          have oc_15 := zk_ne rfl rfl c_15
          obtain ⟨x_17, ex_17⟩ : ∃ y : Int32, y = y18_2 + 1 := ⟨_, rfl⟩
          refine lv_iinc (v := x_17) (lv' := [(2, .int x_17), (5, .int r_4), (4, .int y18_4), (3, .int y4_3), (0, .ref h0), (1, .ref h1)]) hx hb dX9_castsOf_58 hl (k := 3) rfl (by rw [ex_17]; rfl) (by decide) rfl (fun ls hl => ?_)
          obtain ⟨x_18, ex_18⟩ : ∃ y : Int32, y = y18_4 + 1 := ⟨_, rfl⟩
          refine lv_iinc (v := x_18) (lv' := [(4, .int x_18), (2, .int x_17), (5, .int r_4), (3, .int y4_3), (0, .ref h0), (1, .ref h1)]) hx hb dX9_castsOf_61 hl (k := 2) rfl (by rw [ex_18]; rfl) (by decide) rfl (fun ls hl => ?_)
          have hx_18 := zo_add ex_18 rfl (by decide +kernel : (1 : Int32).toInt = 1) (by omega)
          refine lv_goto (tgt := 18) hx hb dX9_castsOf_64 (by decide) ?_
          exact ih18  x_17 x_18 H locs ls (by omega) (by omega)  (by omega) hP hD hS (lv_sub hl [0, 3, 1, 4, 5] rfl)
      have kk0 : (0 : Int32).toInt = 0 := (by decide +kernel)
      exact lp18 ((3 - (0 : Int32).toInt).toNat + 1) y4_2 0 H locs ls (by omega) (by omega)  (by omega) hP hD hS (lv_sub hl [0, 1, 2, 3, 4] rfl)
  have kk0 : (0 : Int32).toInt = 0 := (by decide +kernel)
  exact lp4 ((15 - (0 : Int32).toInt).toNat + 1) 0 0 s.heap [] ls (by omega) (by omega) (by omega)  (by omega) hP hD hS (lv_sub hl [0, 1, 2, 3] rfl)
set_option maxHeartbeats 4000000 in
set_option maxRecDepth 100000 in
theorem zs_X9_priceOf (l : Launch) (dC : Nat → ClassId) (dI : Nat → Nat → Nat) (h0 : Nat) (h1 : Nat) (v0_0 : Int32) (r0_1 : Nat) (r0_2 : Nat) (r0_3 : Nat) (r0_4 : Nat) (v0_5 : Int32) (r0_6 : Nat) (r0_7 : Nat) (r0_8 : Nat) (v1_0 : Int32) (v1_1 : Int32) (r1_2 : Nat) (r1_3 : Nat) (r1_4 : Nat) (r1_5 : Nat) (r1_6 : Nat) (r1_7 : Nat) (r1_8 : Nat) (r1_9 : Nat) (k2 : Nat) (f2 : Nat → Int32) (v3_0 : Int32) (v3_1 : Int32) (v3_2 : Int32) (r3_3 : Nat) (r3_4 : Nat) (r3_5 : Nat) (k4 : Nat) (f4 : Nat → Int32) (k5 : Nat) (f5 : Nat → Int32) (k6 : Nat) (f6 : Nat → Int32) (hq_v0_0 : (0 : Int) ≤ v0_0.toInt ∧ v0_0.toInt ≤ 4) (hq_v1_0 : (0 : Int) ≤ v1_0.toInt ∧ v1_0.toInt ≤ 14) (hq_v3_0 : (0 : Int) ≤ v3_0.toInt ∧ v3_0.toInt ≤ 14) (hq_v3_2 : (0 : Int) ≤ v3_2.toInt ∧ v3_2.toInt ≤ 1) (hf4 : zr f4 (-1) 13) (sz : Nat) : Met l yX9_priceOf wsX9_priceOf ({ frames := 2, cells := 0, slots := 0, locals := 48 }) (va_Pc [.ref h0, .ref h1] (fun U => U.heap.size = sz ∧ va_P (dC, dI) vwCl [(h0, .inr (9, [.int v0_0, .ref r0_1, .ref r0_2, .ref r0_3, .ref r0_4, .int v0_5, .ref r0_6, .ref r0_7, .ref r0_8])), (r0_6, .inr (4, [.int v1_0, .int v1_1, .ref r1_2, .ref r1_3, .ref r1_4, .ref r1_5, .ref r1_6, .ref r1_7, .ref r1_8, .ref r1_9])), (r1_8, .inl (k2, 28, .inl f2)), (r0_7, .inr (2, [.int v3_0, .int v3_1, .int v3_2, .ref r3_3, .ref r3_4, .ref r3_5])), (r3_3, .inl (k4, 14, .inl f4)), (h1, .inl (k5, 14, .inl f5)), (r0_4, .inl (k6, 4, .inl f6))] U.heap ∧ va_K (dC, dI) vwCl [(k2, .int), (k4, .int), (k5, .int), (k6, .int)] U ∧ va_D (fun _ => True) [(h0, .inr (9, [.int v0_0, .ref r0_1, .ref r0_2, .ref r0_3, .ref r0_4, .int v0_5, .ref r0_6, .ref r0_7, .ref r0_8])), (r0_6, .inr (4, [.int v1_0, .int v1_1, .ref r1_2, .ref r1_3, .ref r1_4, .ref r1_5, .ref r1_6, .ref r1_7, .ref r1_8, .ref r1_9])), (r1_8, .inl (k2, 28, .inl f2)), (r0_7, .inr (2, [.int v3_0, .int v3_1, .int v3_2, .ref r3_3, .ref r3_4, .ref r3_5])), (r3_3, .inl (k4, 14, .inl f4)), (h1, .inl (k5, 14, .inl f5)), (r0_4, .inl (k6, 4, .inl f6))])) (va_Qi (fun (r : Int32) (u : zV) => True) (fun u t => va_P (dC, dI) vwCl [(h0, .inr (9, [.int v0_0, .ref r0_1, .ref r0_2, .ref r0_3, .ref r0_4, .int v0_5, .ref r0_6, .ref r0_7, .ref r0_8])), (r0_6, .inr (4, [.int v1_0, .int v1_1, .ref r1_2, .ref r1_3, .ref r1_4, .ref r1_5, .ref r1_6, .ref r1_7, .ref r1_8, .ref r1_9])), (r1_8, .inl (k2, 28, .inl f2)), (r0_7, .inr (2, [.int v3_0, .int v3_1, .int v3_2, .ref r3_3, .ref r3_4, .ref r3_5])), (r3_3, .inl (k4, 14, .inl f4)), (h1, .inl (k5, 14, .inl f5)), (r0_4, .inl (k6, 4, .inl f6))] t.heap ∧ va_K (dC, dI) vwCl [(k2, .int), (k4, .int), (k5, .int), (k6, .int)] t ∧ va_D (va_A [(h0, .inr (9, [.int v0_0, .ref r0_1, .ref r0_2, .ref r0_3, .ref r0_4, .int v0_5, .ref r0_6, .ref r0_7, .ref r0_8])), (r0_6, .inr (4, [.int v1_0, .int v1_1, .ref r1_2, .ref r1_3, .ref r1_4, .ref r1_5, .ref r1_6, .ref r1_7, .ref r1_8, .ref r1_9])), (r1_8, .inl (k2, 28, .inl f2)), (r0_7, .inr (2, [.int v3_0, .int v3_1, .int v3_2, .ref r3_3, .ref r3_4, .ref r3_5])), (r3_3, .inl (k4, 14, .inl f4)), (h1, .inl (k5, 14, .inl f5)), (r0_4, .inl (k6, 4, .inl f6))] sz) [(h0, .inr (9, [.int v0_0, .ref r0_1, .ref r0_2, .ref r0_3, .ref r0_4, .int v0_5, .ref r0_6, .ref r0_7, .ref r0_8])), (r0_6, .inr (4, [.int v1_0, .int v1_1, .ref r1_2, .ref r1_3, .ref r1_4, .ref r1_5, .ref r1_6, .ref r1_7, .ref r1_8, .ref r1_9])), (r1_8, .inl (k2, 28, .inl f2)), (r0_7, .inr (2, [.int v3_0, .int v3_1, .int v3_2, .ref r3_3, .ref r3_4, .ref r3_5])), (r3_3, .inl (k4, 14, .inl f4)), (h1, .inl (k5, 14, .inl f5)), (r0_4, .inl (k6, 4, .inl f6))]) (va_A [(h0, .inr (9, [.int v0_0, .ref r0_1, .ref r0_2, .ref r0_3, .ref r0_4, .int v0_5, .ref r0_6, .ref r0_7, .ref r0_8])), (r0_6, .inr (4, [.int v1_0, .int v1_1, .ref r1_2, .ref r1_3, .ref r1_4, .ref r1_5, .ref r1_6, .ref r1_7, .ref r1_8, .ref r1_9])), (r1_8, .inl (k2, 28, .inl f2)), (r0_7, .inr (2, [.int v3_0, .int v3_1, .int v3_2, .ref r3_3, .ref r3_4, .ref r3_5])), (r3_3, .inl (k4, 14, .inl f4)), (h1, .inl (k5, 14, .inl f5)), (r0_4, .inl (k6, 4, .inl f6))] sz)) 0 0 (va_A [(h0, .inr (9, [.int v0_0, .ref r0_1, .ref r0_2, .ref r0_3, .ref r0_4, .int v0_5, .ref r0_6, .ref r0_7, .ref r0_8])), (r0_6, .inr (4, [.int v1_0, .int v1_1, .ref r1_2, .ref r1_3, .ref r1_4, .ref r1_5, .ref r1_6, .ref r1_7, .ref r1_8, .ref r1_9])), (r1_8, .inl (k2, 28, .inl f2)), (r0_7, .inr (2, [.int v3_0, .int v3_1, .int v3_2, .ref r3_3, .ref r3_4, .ref r3_5])), (r3_3, .inl (k4, 14, .inl f4)), (h1, .inl (k5, 14, .inl f5)), (r0_4, .inl (k6, 4, .inl f6))] sz) := by
  refine Met.ofW (cc := cX9_priceOf) (maxL := 5) (ret := (some .int)) (by decide +kernel) rfl ?_
  intro p e s m args below meth c s₁ B hml hv
  obtain ⟨rfl, hsz, hP, hK, hD0⟩ := hv
  have hx := B.exec
  have hb := B.bytes
  have hr := B.returns
  have hts := atoms_spec (ws := wsX9_priceOf) B.pre
  have hown : s.vm.findClass RX9 = some m.cls := findClass_of_methodNamed B.named
  have hlocks := B.notSynchronized
  subst hsz
  have hD := hD0.self (sz := s.heap.size)
  generalize hAe : va_A [(h0, .inr (9, [.int v0_0, .ref r0_1, .ref r0_2, .ref r0_3, .ref r0_4, .int v0_5, .ref r0_6, .ref r0_7, .ref r0_8])), (r0_6, .inr (4, [.int v1_0, .int v1_1, .ref r1_2, .ref r1_3, .ref r1_4, .ref r1_5, .ref r1_6, .ref r1_7, .ref r1_8, .ref r1_9])), (r1_8, .inl (k2, 28, .inl f2)), (r0_7, .inr (2, [.int v3_0, .int v3_1, .int v3_2, .ref r3_3, .ref r3_4, .ref r3_5])), (r3_3, .inl (k4, 14, .inl f4)), (h1, .inl (k5, 14, .inl f5)), (r0_4, .inl (k6, 4, .inl f6))] s.heap.size = A at hD ⊢
  have hA : ∀ q : Nat, s.heap.size ≤ q → A q := fun q h => by rw [← hAe]; exact Or.inr h
  have hS : va_S A s.heap s.heap [] := va_S.rf
  have hP : va_P (dC, dI) vwCl [(h0, .inr (9, [.int v0_0, .ref r0_1, .ref r0_2, .ref r0_3, .ref r0_4, .int v0_5, .ref r0_6, .ref r0_7, .ref r0_8])), (r0_6, .inr (4, [.int v1_0, .int v1_1, .ref r1_2, .ref r1_3, .ref r1_4, .ref r1_5, .ref r1_6, .ref r1_7, .ref r1_8, .ref r1_9])), (r1_8, .inl (k2, 28, .inl f2)), (r0_7, .inr (2, [.int v3_0, .int v3_1, .int v3_2, .ref r3_3, .ref r3_4, .ref r3_5])), (r3_3, .inl (k4, 14, .inl f4)), (h1, .inl (k5, 14, .inl f5)), (r0_4, .inl (k6, 4, .inl f6))] s.heap := hP
  have hl := lv_entry ([.ref h0, .ref h1]) (n := 5) (Nat.le_of_ble_eq_true rfl)
  rw [lg_entry_eq]
  generalize (lg_sl ([.ref h0, .ref h1]) ++ List.replicate (5 - (lg_sl ([.ref h0, .ref h1])).length) Slot.unset).toArray = ls at hl ⊢
  have hl : lv_has ls 5 [(0, .ref h0), (1, .ref h1)] := hl
  generalize hQ : MQ below (va_Qi (fun (r : Int32) (u : zV) => True) (fun u t => va_P (dC, dI) vwCl [(h0, .inr (9, [.int v0_0, .ref r0_1, .ref r0_2, .ref r0_3, .ref r0_4, .int v0_5, .ref r0_6, .ref r0_7, .ref r0_8])), (r0_6, .inr (4, [.int v1_0, .int v1_1, .ref r1_2, .ref r1_3, .ref r1_4, .ref r1_5, .ref r1_6, .ref r1_7, .ref r1_8, .ref r1_9])), (r1_8, .inl (k2, 28, .inl f2)), (r0_7, .inr (2, [.int v3_0, .int v3_1, .int v3_2, .ref r3_3, .ref r3_4, .ref r3_5])), (r3_3, .inl (k4, 14, .inl f4)), (h1, .inl (k5, 14, .inl f5)), (r0_4, .inl (k6, 4, .inl f6))] t.heap ∧ va_K (dC, dI) vwCl [(k2, .int), (k4, .int), (k5, .int), (k6, .int)] t ∧ va_D A [(h0, .inr (9, [.int v0_0, .ref r0_1, .ref r0_2, .ref r0_3, .ref r0_4, .int v0_5, .ref r0_6, .ref r0_7, .ref r0_8])), (r0_6, .inr (4, [.int v1_0, .int v1_1, .ref r1_2, .ref r1_3, .ref r1_4, .ref r1_5, .ref r1_6, .ref r1_7, .ref r1_8, .ref r1_9])), (r1_8, .inl (k2, 28, .inl f2)), (r0_7, .inr (2, [.int v3_0, .int v3_1, .int v3_2, .ref r3_3, .ref r3_4, .ref r3_5])), (r3_3, .inl (k4, 14, .inl f4)), (h1, .inl (k5, 14, .inl f5)), (r0_4, .inl (k6, 4, .inl f6))]) A) ([.ref h0, .ref h1] : List Value).toArray s 0 0 A = Q
  refine lv_aload_n hx hb dX9_priceOf_0 rfl (lv_at hl 0 rfl) ?_
  refine va_get (D := (dC, dI)) (ci := 9) (v := .int v0_5) (C := RX9) (T := TX9) (N := 9) hx hb hts zn_X9_priceOf_X9 hown hK hP 0 rfl rfl 5 (by decide) (hts (.fieldLink RX9 49 "ShortEnough$Task" "castPrice" "I") zw_X9_priceOf_102) (fun _ h9 => h9) rfl dX9_priceOf_1 ?_
  refine lv_aload_n hx hb dX9_priceOf_4 rfl (lv_at hl 0 rfl) ?_
  refine lv_aload_n hx hb dX9_priceOf_5 rfl (lv_at hl 1 rfl) ?_
  have hPc := hP.sub (ws' := [(h0, .inr (9, [.int v0_0, .ref r0_1, .ref r0_2, .ref r0_3, .ref r0_4, .int v0_5, .ref r0_6, .ref r0_7, .ref r0_8])), (r0_6, .inr (4, [.int v1_0, .int v1_1, .ref r1_2, .ref r1_3, .ref r1_4, .ref r1_5, .ref r1_6, .ref r1_7, .ref r1_8, .ref r1_9])), (r1_8, .inl (k2, 28, .inl f2)), (r0_7, .inr (2, [.int v3_0, .int v3_1, .int v3_2, .ref r3_3, .ref r3_4, .ref r3_5])), (r3_3, .inl (k4, 14, .inl f4)), (h1, .inl (k5, 14, .inl f5))]) [0, 1, 2, 3, 4, 5] rfl
  have hDc := hD.sub (ws' := [(h0, .inr (9, [.int v0_0, .ref r0_1, .ref r0_2, .ref r0_3, .ref r0_4, .int v0_5, .ref r0_6, .ref r0_7, .ref r0_8])), (r0_6, .inr (4, [.int v1_0, .int v1_1, .ref r1_2, .ref r1_3, .ref r1_4, .ref r1_5, .ref r1_6, .ref r1_7, .ref r1_8, .ref r1_9])), (r1_8, .inl (k2, 28, .inl f2)), (r0_7, .inr (2, [.int v3_0, .int v3_1, .int v3_2, .ref r3_3, .ref r3_4, .ref r3_5])), (r3_3, .inl (k4, 14, .inl f4)), (h1, .inl (k5, 14, .inl f5))]) [0, 1, 2, 3, 4, 5] (by decide) rfl
  have hKc := hK.sub (tys' := [(k2, .int), (k4, .int), (k5, .int)]) [0, 1, 2] rfl
  have hFc := va_free (wc := [(h0, .inr (9, [.int v0_0, .ref r0_1, .ref r0_2, .ref r0_3, .ref r0_4, .int v0_5, .ref r0_6, .ref r0_7, .ref r0_8])), (r0_6, .inr (4, [.int v1_0, .int v1_1, .ref r1_2, .ref r1_3, .ref r1_4, .ref r1_5, .ref r1_6, .ref r1_7, .ref r1_8, .ref r1_9])), (r1_8, .inl (k2, 28, .inl f2)), (r0_7, .inr (2, [.int v3_0, .int v3_1, .int v3_2, .ref r3_3, .ref r3_4, .ref r3_5])), (r3_3, .inl (k4, 14, .inl f4)), (h1, .inl (k5, 14, .inl f5))]) hD hS hA [0, 1, 2, 3, 4, 5] rfl
  refine va_calli (va_runV (As := [.ref h1]) (rest := [.int v0_5]) ⟨hx, hb, hml, hown, hts⟩ (zs_X9_castsOf l dC dI h0 h1 v0_0 r0_1 r0_2 r0_3 r0_4 v0_5 r0_6 r0_7 r0_8 v1_0 v1_1 r1_2 r1_3 r1_4 r1_5 r1_6 r1_7 r1_8 r1_9 k2 f2 v3_0 v3_1 v3_2 r3_3 r3_4 r3_5 k4 f4 k5 f5 (by omega) (by omega) (by omega) (by omega) hf4 s.heap.size) (cwV 1 hts gX9_priceOf_X9_castsOf rfl rfl rfl (by decide +kernel) ⟨Nat.le_of_ble_eq_true rfl, Nat.le_of_ble_eq_true rfl⟩) ⟨fun a U g mk q => by obtain ⟨q0, q1, qP, qK, qD⟩ := q; exact ⟨q0, q1, qP, va_K.moved (u := U) (U := U.calling g mk a) (Vm.Alike.refl U.vm) qK, qD⟩, va_recv hKc hPc (ci := 9) (q0 := 0) rfl rfl, fun U hU hW => ⟨rfl, by rw [hU], by rw [hU]; exact hPc, va_K.moved hW.alike hKc, hDc.weaken (fun _ _ _ _ => trivial)⟩⟩ rfl rfl hl.1 rfl (lv_room (Nat.le_of_ble_eq_true rfl)) dX9_priceOf_6 ⟨Nat.le_of_ble_eq_true rfl, Nat.le_of_ble_eq_true rfl⟩) hS (fun q _ h => hFc q h) hFc (fun r_1 u_2 t H1 locs ht hvm hw_3 hB hz1 hk1 hS => ?_)
  obtain ⟨hP1, hK1, hD1⟩ := hB
  rw [ht] at hP1
  have hK1 := va_K.moved hvm.symm hK1
  obtain ⟨hP, hD⟩ := va_join (wr := [(r0_4, .inl (k6, 4, .inl f6))]) (w1 := [(h0, .inr (9, [.int v0_0, .ref r0_1, .ref r0_2, .ref r0_3, .ref r0_4, .int v0_5, .ref r0_6, .ref r0_7, .ref r0_8])), (r0_6, .inr (4, [.int v1_0, .int v1_1, .ref r1_2, .ref r1_3, .ref r1_4, .ref r1_5, .ref r1_6, .ref r1_7, .ref r1_8, .ref r1_9])), (r1_8, .inl (k2, 28, .inl f2)), (r0_7, .inr (2, [.int v3_0, .int v3_1, .int v3_2, .ref r3_3, .ref r3_4, .ref r3_5])), (r3_3, .inl (k4, 14, .inl f4)), (h1, .inl (k5, 14, .inl f5))]) hP hD [0, 1, 2, 3, 4, 5] [6] rfl rfl (by decide) (by decide) hk1 hFc hP1 hD1
  have hK := hK
  generalize H1 = H at hP hS ⊢
  have hP := hP.sub (ws' := [(h0, .inr (9, [.int v0_0, .ref r0_1, .ref r0_2, .ref r0_3, .ref r0_4, .int v0_5, .ref r0_6, .ref r0_7, .ref r0_8])), (r0_6, .inr (4, [.int v1_0, .int v1_1, .ref r1_2, .ref r1_3, .ref r1_4, .ref r1_5, .ref r1_6, .ref r1_7, .ref r1_8, .ref r1_9])), (r1_8, .inl (k2, 28, .inl f2)), (r0_7, .inr (2, [.int v3_0, .int v3_1, .int v3_2, .ref r3_3, .ref r3_4, .ref r3_5])), (r3_3, .inl (k4, 14, .inl f4)), (h1, .inl (k5, 14, .inl f5)), (r0_4, .inl (k6, 4, .inl f6))]) [1, 2, 3, 4, 5, 6, 0] rfl
  have hD := hD.sub (ws' := [(h0, .inr (9, [.int v0_0, .ref r0_1, .ref r0_2, .ref r0_3, .ref r0_4, .int v0_5, .ref r0_6, .ref r0_7, .ref r0_8])), (r0_6, .inr (4, [.int v1_0, .int v1_1, .ref r1_2, .ref r1_3, .ref r1_4, .ref r1_5, .ref r1_6, .ref r1_7, .ref r1_8, .ref r1_9])), (r1_8, .inl (k2, 28, .inl f2)), (r0_7, .inr (2, [.int v3_0, .int v3_1, .int v3_2, .ref r3_3, .ref r3_4, .ref r3_5])), (r3_3, .inl (k4, 14, .inl f4)), (h1, .inl (k5, 14, .inl f5)), (r0_4, .inl (k6, 4, .inl f6))]) [1, 2, 3, 4, 5, 6, 0] (by decide) rfl
  have hP : va_P (dC, dI) vwCl [(h0, .inr (9, [.int v0_0, .ref r0_1, .ref r0_2, .ref r0_3, .ref r0_4, .int v0_5, .ref r0_6, .ref r0_7, .ref r0_8])), (r0_6, .inr (4, [.int v1_0, .int v1_1, .ref r1_2, .ref r1_3, .ref r1_4, .ref r1_5, .ref r1_6, .ref r1_7, .ref r1_8, .ref r1_9])), (r1_8, .inl (k2, 28, .inl f2)), (r0_7, .inr (2, [.int v3_0, .int v3_1, .int v3_2, .ref r3_3, .ref r3_4, .ref r3_5])), (r3_3, .inl (k4, 14, .inl f4)), (h1, .inl (k5, 14, .inl f5)), (r0_4, .inl (k6, 4, .inl f6))] H := hP
  have hD : va_D A [(h0, .inr (9, [.int v0_0, .ref r0_1, .ref r0_2, .ref r0_3, .ref r0_4, .int v0_5, .ref r0_6, .ref r0_7, .ref r0_8])), (r0_6, .inr (4, [.int v1_0, .int v1_1, .ref r1_2, .ref r1_3, .ref r1_4, .ref r1_5, .ref r1_6, .ref r1_7, .ref r1_8, .ref r1_9])), (r1_8, .inl (k2, 28, .inl f2)), (r0_7, .inr (2, [.int v3_0, .int v3_1, .int v3_2, .ref r3_3, .ref r3_4, .ref r3_5])), (r3_3, .inl (k4, 14, .inl f4)), (h1, .inl (k5, 14, .inl f5)), (r0_4, .inl (k6, 4, .inl f6))] := hD
  refine lv_imul hx hb dX9_priceOf_9 ?_
  refine lv_topi (fun x_4 ex_4 => ?_)
  refine lv_istore_n (lv' := [(2, .int x_4), (0, .ref h0), (1, .ref h1)]) hx hb dX9_priceOf_10 rfl hl (by decide) rfl (fun ls hl => ?_)
  refine lv_iconst (v := 0) hx hb dX9_priceOf_11 (by decide +kernel) ?_
  refine lv_istore_n (lv' := [(3, .int 0), (2, .int x_4), (0, .ref h0), (1, .ref h1)]) hx hb dX9_priceOf_12 rfl hl (by decide) rfl (fun ls hl => ?_)
  have lp13 : ∀ (n : Nat) (y13_2 : Int32) (y13_3 : Int32) (H : Heap) (locs : List Loc) (ls : Array Slot), (0 : Int) ≤ y13_3.toInt + (0) → (y13_3.toInt : Int) ≤ 0 + (14) → (y13_3.toInt : Int) ≤ v1_0.toInt + (0) → 15 - y13_3.toInt < n → va_P (dC, dI) vwCl [(h0, .inr (9, [.int v0_0, .ref r0_1, .ref r0_2, .ref r0_3, .ref r0_4, .int v0_5, .ref r0_6, .ref r0_7, .ref r0_8])), (r0_6, .inr (4, [.int v1_0, .int v1_1, .ref r1_2, .ref r1_3, .ref r1_4, .ref r1_5, .ref r1_6, .ref r1_7, .ref r1_8, .ref r1_9])), (r1_8, .inl (k2, 28, .inl f2)), (r0_7, .inr (2, [.int v3_0, .int v3_1, .int v3_2, .ref r3_3, .ref r3_4, .ref r3_5])), (r3_3, .inl (k4, 14, .inl f4)), (h1, .inl (k5, 14, .inl f5)), (r0_4, .inl (k6, 4, .inl f6))] H → va_D A [(h0, .inr (9, [.int v0_0, .ref r0_1, .ref r0_2, .ref r0_3, .ref r0_4, .int v0_5, .ref r0_6, .ref r0_7, .ref r0_8])), (r0_6, .inr (4, [.int v1_0, .int v1_1, .ref r1_2, .ref r1_3, .ref r1_4, .ref r1_5, .ref r1_6, .ref r1_7, .ref r1_8, .ref r1_9])), (r1_8, .inl (k2, 28, .inl f2)), (r0_7, .inr (2, [.int v3_0, .int v3_1, .int v3_2, .ref r3_3, .ref r3_4, .ref r3_5])), (r3_3, .inl (k4, 14, .inl f4)), (h1, .inl (k5, 14, .inl f5)), (r0_4, .inl (k6, 4, .inl f6))] → va_S A s.heap H locs → lv_has ls 5 [(3, .int y13_3), (2, .int y13_2), (0, .ref h0), (1, .ref h1)] → W p l e (headSpec wsX9_priceOf ({ frames := 2, cells := 0, slots := 0, locals := 48 })).room s m ([.ref h0, .ref h1] : List Value).toArray below meth c H locs 0 0 Q (F0 m 13 ls []) := by
    intro n
    induction n with
    | zero =>
      intro y13_2 y13_3 H locs ls hz13_0 hz13_1 hz13_2  hmeas hP hD hS hl
      exfalso; omega
    | succ n ih13 =>
      intro y13_2 y13_3 H locs ls hz13_0 hz13_1 hz13_2  hmeas hP hD hS hl
      refine lv_iload_n hx hb dX9_priceOf_13 rfl (lv_at hl 0 rfl) ?_
      refine lv_aload_n hx hb dX9_priceOf_14 rfl (lv_at hl 2 rfl) ?_
      refine va_get (D := (dC, dI)) (ci := 9) (v := .ref r0_6) (C := RX9) (T := TX9) (N := 9) hx hb hts zn_X9_priceOf_X9 hown hK hP 0 rfl rfl 6 (by decide) (hts (.fieldLink RX9 27 "ShortEnough$Task" "numbers" "LShortEnough$Numbers;") zw_X9_priceOf_103) (fun _ h9 => h9) rfl dX9_priceOf_15 ?_
      refine va_get (D := (dC, dI)) (ci := 4) (v := .int v1_0) (C := RX4) (T := TX4) (N := 10) hx hb hts zn_X9_priceOf_X4 hown hK hP 1 rfl rfl 0 (by decide) (hts (.fieldLink RX9 52 "ShortEnough$Numbers" "count" "I") zw_X9_priceOf_105) (fun _ h9 => h9) rfl dX9_priceOf_18 ?_
      refine lv_icmp_ge (tgt := 61) hx hb dX9_priceOf_21 (by decide) (fun c_5 => ?_) (fun c_5 => ?_)
      · have oc_5 := zk_le rfl rfl c_5
        refine lv_iload_n hx hb dX9_priceOf_61 rfl (lv_at hl 1 rfl) ?_
        have hP9 := hP.sub (ws' := [(h0, .inr (9, [.int v0_0, .ref r0_1, .ref r0_2, .ref r0_3, .ref r0_4, .int v0_5, .ref r0_6, .ref r0_7, .ref r0_8])), (r0_6, .inr (4, [.int v1_0, .int v1_1, .ref r1_2, .ref r1_3, .ref r1_4, .ref r1_5, .ref r1_6, .ref r1_7, .ref r1_8, .ref r1_9])), (r1_8, .inl (k2, 28, .inl f2)), (r0_7, .inr (2, [.int v3_0, .int v3_1, .int v3_2, .ref r3_3, .ref r3_4, .ref r3_5])), (r3_3, .inl (k4, 14, .inl f4)), (h1, .inl (k5, 14, .inl f5)), (r0_4, .inl (k6, 4, .inl f6))]) [0, 1, 2, 3, 4, 5, 6] rfl
        have hD9 := hD.sub (ws' := [(h0, .inr (9, [.int v0_0, .ref r0_1, .ref r0_2, .ref r0_3, .ref r0_4, .int v0_5, .ref r0_6, .ref r0_7, .ref r0_8])), (r0_6, .inr (4, [.int v1_0, .int v1_1, .ref r1_2, .ref r1_3, .ref r1_4, .ref r1_5, .ref r1_6, .ref r1_7, .ref r1_8, .ref r1_9])), (r1_8, .inl (k2, 28, .inl f2)), (r0_7, .inr (2, [.int v3_0, .int v3_1, .int v3_2, .ref r3_3, .ref r3_4, .ref r3_5])), (r3_3, .inl (k4, 14, .inl f4)), (h1, .inl (k5, 14, .inl f5)), (r0_4, .inl (k6, 4, .inl f6))]) [0, 1, 2, 3, 4, 5, 6] (by decide) rfl
        have hK9 := hK.sub (tys' := [(k2, .int), (k4, .int), (k5, .int), (k6, .int)]) [0, 1, 2, 3] rfl
        rw [← hQ]
        exact W.iret (v := y13_2) hx hb hr (fun t ht hW => ⟨⟨y13_2, ((fun k => ([] : List Int32).getD k 0), (fun k => ([] : List (Nat → Int32)).getD k (fun _ => 0)), (fun k => ([] : List (Nat → Int64)).getD k (fun _ => 0))), rfl, trivial, by rw [ht]; exact hP9, va_K.moved hW.alike hK9, hD9⟩, hS.F ht⟩) hS.2.2 dX9_priceOf_62
      have oc_5 := zk_nle rfl rfl c_5
      refine lv_aload_n hx hb dX9_priceOf_24 rfl (lv_at hl 2 rfl) ?_
      refine lv_aload_n hx hb dX9_priceOf_25 rfl (lv_at hl 3 rfl) ?_
      refine lv_iload_n hx hb dX9_priceOf_26 rfl (lv_at hl 0 rfl) ?_
      have hPc := hP.sub (ws' := [(h0, .inr (9, [.int v0_0, .ref r0_1, .ref r0_2, .ref r0_3, .ref r0_4, .int v0_5, .ref r0_6, .ref r0_7, .ref r0_8])), (r0_6, .inr (4, [.int v1_0, .int v1_1, .ref r1_2, .ref r1_3, .ref r1_4, .ref r1_5, .ref r1_6, .ref r1_7, .ref r1_8, .ref r1_9])), (r0_7, .inr (2, [.int v3_0, .int v3_1, .int v3_2, .ref r3_3, .ref r3_4, .ref r3_5])), (r3_3, .inl (k4, 14, .inl f4)), (h1, .inl (k5, 14, .inl f5))]) [0, 1, 3, 4, 5] rfl
      have hDc := hD.sub (ws' := [(h0, .inr (9, [.int v0_0, .ref r0_1, .ref r0_2, .ref r0_3, .ref r0_4, .int v0_5, .ref r0_6, .ref r0_7, .ref r0_8])), (r0_6, .inr (4, [.int v1_0, .int v1_1, .ref r1_2, .ref r1_3, .ref r1_4, .ref r1_5, .ref r1_6, .ref r1_7, .ref r1_8, .ref r1_9])), (r0_7, .inr (2, [.int v3_0, .int v3_1, .int v3_2, .ref r3_3, .ref r3_4, .ref r3_5])), (r3_3, .inl (k4, 14, .inl f4)), (h1, .inl (k5, 14, .inl f5))]) [0, 1, 3, 4, 5] (by decide) rfl
      have hKc := hK.sub (tys' := [(k4, .int), (k5, .int)]) [1, 2] rfl
      have hFc := va_free (wc := [(h0, .inr (9, [.int v0_0, .ref r0_1, .ref r0_2, .ref r0_3, .ref r0_4, .int v0_5, .ref r0_6, .ref r0_7, .ref r0_8])), (r0_6, .inr (4, [.int v1_0, .int v1_1, .ref r1_2, .ref r1_3, .ref r1_4, .ref r1_5, .ref r1_6, .ref r1_7, .ref r1_8, .ref r1_9])), (r0_7, .inr (2, [.int v3_0, .int v3_1, .int v3_2, .ref r3_3, .ref r3_4, .ref r3_5])), (r3_3, .inl (k4, 14, .inl f4)), (h1, .inl (k5, 14, .inl f5))]) hD hS hA [0, 1, 3, 4, 5] rfl
      refine va_calli (va_runV (As := [.ref h1, .int y13_3]) (rest := []) ⟨hx, hb, hml, hown, hts⟩ (zs_X9_formatOf l dC dI h0 h1 y13_3 v0_0 r0_1 r0_2 r0_3 r0_4 v0_5 r0_6 r0_7 r0_8 v1_0 v1_1 r1_2 r1_3 r1_4 r1_5 r1_6 r1_7 r1_8 r1_9 v3_0 v3_1 v3_2 r3_3 r3_4 r3_5 k4 f4 k5 f5 (by omega) (by omega) (by omega) (by omega) hf4 H.size) (cwV 2 hts gX9_priceOf_X9_formatOf rfl rfl rfl (by decide +kernel) ⟨Nat.le_of_ble_eq_true rfl, Nat.le_of_ble_eq_true rfl⟩) ⟨fun a U g mk q => by obtain ⟨q0, q1, qP, qK, qD⟩ := q; exact ⟨q0, q1, qP, va_K.moved (u := U) (U := U.calling g mk a) (Vm.Alike.refl U.vm) qK, qD⟩, va_recv hKc hPc (ci := 9) (q0 := 0) rfl rfl, fun U hU hW => ⟨rfl, by rw [hU], by rw [hU]; exact hPc, va_K.moved hW.alike hKc, hDc.weaken (fun _ _ _ _ => trivial)⟩⟩ rfl rfl hl.1 rfl (lv_room (Nat.le_of_ble_eq_true rfl)) dX9_priceOf_27 ⟨Nat.le_of_ble_eq_true rfl, Nat.le_of_ble_eq_true rfl⟩) hS (fun q _ h => hFc q h) hFc (fun r_6 u_7 t H1 locs ht hvm hw_8 hB hz1 hk1 hS => ?_)
      obtain ⟨hP1, hK1, hD1⟩ := hB
      rw [ht] at hP1
      have hK1 := va_K.moved hvm.symm hK1
      obtain ⟨hP, hD⟩ := va_join (wr := [(r1_8, .inl (k2, 28, .inl f2)), (r0_4, .inl (k6, 4, .inl f6))]) (w1 := [(h0, .inr (9, [.int v0_0, .ref r0_1, .ref r0_2, .ref r0_3, .ref r0_4, .int v0_5, .ref r0_6, .ref r0_7, .ref r0_8])), (r0_6, .inr (4, [.int v1_0, .int v1_1, .ref r1_2, .ref r1_3, .ref r1_4, .ref r1_5, .ref r1_6, .ref r1_7, .ref r1_8, .ref r1_9])), (r0_7, .inr (2, [.int v3_0, .int v3_1, .int v3_2, .ref r3_3, .ref r3_4, .ref r3_5])), (r3_3, .inl (k4, 14, .inl f4)), (h1, .inl (k5, 14, .inl f5))]) hP hD [0, 1, 3, 4, 5] [2, 6] rfl rfl (by decide) (by decide) hk1 hFc hP1 hD1
      have hK := hK
      generalize H1 = H at hP hS ⊢
      have hP := hP.sub (ws' := [(h0, .inr (9, [.int v0_0, .ref r0_1, .ref r0_2, .ref r0_3, .ref r0_4, .int v0_5, .ref r0_6, .ref r0_7, .ref r0_8])), (r0_6, .inr (4, [.int v1_0, .int v1_1, .ref r1_2, .ref r1_3, .ref r1_4, .ref r1_5, .ref r1_6, .ref r1_7, .ref r1_8, .ref r1_9])), (r1_8, .inl (k2, 28, .inl f2)), (r0_7, .inr (2, [.int v3_0, .int v3_1, .int v3_2, .ref r3_3, .ref r3_4, .ref r3_5])), (r3_3, .inl (k4, 14, .inl f4)), (h1, .inl (k5, 14, .inl f5)), (r0_4, .inl (k6, 4, .inl f6))]) [2, 3, 0, 4, 5, 6, 1] rfl
      have hD := hD.sub (ws' := [(h0, .inr (9, [.int v0_0, .ref r0_1, .ref r0_2, .ref r0_3, .ref r0_4, .int v0_5, .ref r0_6, .ref r0_7, .ref r0_8])), (r0_6, .inr (4, [.int v1_0, .int v1_1, .ref r1_2, .ref r1_3, .ref r1_4, .ref r1_5, .ref r1_6, .ref r1_7, .ref r1_8, .ref r1_9])), (r1_8, .inl (k2, 28, .inl f2)), (r0_7, .inr (2, [.int v3_0, .int v3_1, .int v3_2, .ref r3_3, .ref r3_4, .ref r3_5])), (r3_3, .inl (k4, 14, .inl f4)), (h1, .inl (k5, 14, .inl f5)), (r0_4, .inl (k6, 4, .inl f6))]) [2, 3, 0, 4, 5, 6, 1] (by decide) rfl
      have hP : va_P (dC, dI) vwCl [(h0, .inr (9, [.int v0_0, .ref r0_1, .ref r0_2, .ref r0_3, .ref r0_4, .int v0_5, .ref r0_6, .ref r0_7, .ref r0_8])), (r0_6, .inr (4, [.int v1_0, .int v1_1, .ref r1_2, .ref r1_3, .ref r1_4, .ref r1_5, .ref r1_6, .ref r1_7, .ref r1_8, .ref r1_9])), (r1_8, .inl (k2, 28, .inl f2)), (r0_7, .inr (2, [.int v3_0, .int v3_1, .int v3_2, .ref r3_3, .ref r3_4, .ref r3_5])), (r3_3, .inl (k4, 14, .inl f4)), (h1, .inl (k5, 14, .inl f5)), (r0_4, .inl (k6, 4, .inl f6))] H := hP
      have hD : va_D A [(h0, .inr (9, [.int v0_0, .ref r0_1, .ref r0_2, .ref r0_3, .ref r0_4, .int v0_5, .ref r0_6, .ref r0_7, .ref r0_8])), (r0_6, .inr (4, [.int v1_0, .int v1_1, .ref r1_2, .ref r1_3, .ref r1_4, .ref r1_5, .ref r1_6, .ref r1_7, .ref r1_8, .ref r1_9])), (r1_8, .inl (k2, 28, .inl f2)), (r0_7, .inr (2, [.int v3_0, .int v3_1, .int v3_2, .ref r3_3, .ref r3_4, .ref r3_5])), (r3_3, .inl (k4, 14, .inl f4)), (h1, .inl (k5, 14, .inl f5)), (r0_4, .inl (k6, 4, .inl f6))] := hD
      obtain ⟨hir_6, -⟩ := hw_8
      refine lv_istore (lv' := [(4, .int r_6), (3, .int y13_3), (2, .int y13_2), (0, .ref h0), (1, .ref h1)]) hx hb dX9_priceOf_30 hl (by decide) rfl (fun ls hl => ?_)
      refine lv_iload_n hx hb dX9_priceOf_32 rfl (lv_at hl 2 rfl) ?_
      refine lv_aload_n hx hb dX9_priceOf_33 rfl (lv_at hl 3 rfl) ?_
      refine lv_iload hx hb dX9_priceOf_34 (lv_at hl 0 rfl) ?_
      have hPc := hP.sub (ws' := [(h0, .inr (9, [.int v0_0, .ref r0_1, .ref r0_2, .ref r0_3, .ref r0_4, .int v0_5, .ref r0_6, .ref r0_7, .ref r0_8]))]) [0] rfl
      have hDc := hD.sub (ws' := [(h0, .inr (9, [.int v0_0, .ref r0_1, .ref r0_2, .ref r0_3, .ref r0_4, .int v0_5, .ref r0_6, .ref r0_7, .ref r0_8]))]) [0] (by decide) rfl
      have hKc := hK.sub (tys' := []) [] rfl
      have hFc := va_free (wc := [(h0, .inr (9, [.int v0_0, .ref r0_1, .ref r0_2, .ref r0_3, .ref r0_4, .int v0_5, .ref r0_6, .ref r0_7, .ref r0_8]))]) hD hS hA [0] rfl
      refine va_calli (va_runV (As := [.int r_6]) (rest := [.int y13_2]) ⟨hx, hb, hml, hown, hts⟩ (zs_X9_hasFormat l dC dI h0 r_6 v0_0 r0_1 r0_2 r0_3 r0_4 v0_5 r0_6 r0_7 r0_8 (by omega) H.size) (cwV 1 hts gX9_priceOf_X9_hasFormat rfl rfl rfl (by decide +kernel) ⟨Nat.le_of_ble_eq_true rfl, Nat.le_of_ble_eq_true rfl⟩) ⟨fun a U g mk q => by obtain ⟨q0, q1, qP, qK, qD⟩ := q; exact ⟨q0, q1, qP, va_K.moved (u := U) (U := U.calling g mk a) (Vm.Alike.refl U.vm) qK, qD⟩, va_recv hKc hPc (ci := 9) (q0 := 0) rfl rfl, fun U hU hW => ⟨rfl, by rw [hU], by rw [hU]; exact hPc, va_K.moved hW.alike hKc, hDc.weaken (fun _ _ _ _ => trivial)⟩⟩ rfl rfl hl.1 rfl (lv_room (Nat.le_of_ble_eq_true rfl)) dX9_priceOf_36 ⟨Nat.le_of_ble_eq_true rfl, Nat.le_of_ble_eq_true rfl⟩) hS (fun q _ h => hFc q h) hFc (fun r_9 u_10 t H1 locs ht hvm hw_11 hB hz1 hk1 hS => ?_)
      obtain ⟨hP1, hK1, hD1⟩ := hB
      rw [ht] at hP1
      have hK1 := va_K.moved hvm.symm hK1
      obtain ⟨hP, hD⟩ := va_join (wr := [(r0_6, .inr (4, [.int v1_0, .int v1_1, .ref r1_2, .ref r1_3, .ref r1_4, .ref r1_5, .ref r1_6, .ref r1_7, .ref r1_8, .ref r1_9])), (r1_8, .inl (k2, 28, .inl f2)), (r0_7, .inr (2, [.int v3_0, .int v3_1, .int v3_2, .ref r3_3, .ref r3_4, .ref r3_5])), (r3_3, .inl (k4, 14, .inl f4)), (h1, .inl (k5, 14, .inl f5)), (r0_4, .inl (k6, 4, .inl f6))]) (w1 := [(h0, .inr (9, [.int v0_0, .ref r0_1, .ref r0_2, .ref r0_3, .ref r0_4, .int v0_5, .ref r0_6, .ref r0_7, .ref r0_8]))]) hP hD [0] [1, 2, 3, 4, 5, 6] rfl rfl (by decide) (by decide) hk1 hFc hP1 hD1
      have hK := hK
      generalize H1 = H at hP hS ⊢
      have hP := hP.sub (ws' := [(h0, .inr (9, [.int v0_0, .ref r0_1, .ref r0_2, .ref r0_3, .ref r0_4, .int v0_5, .ref r0_6, .ref r0_7, .ref r0_8])), (r0_6, .inr (4, [.int v1_0, .int v1_1, .ref r1_2, .ref r1_3, .ref r1_4, .ref r1_5, .ref r1_6, .ref r1_7, .ref r1_8, .ref r1_9])), (r1_8, .inl (k2, 28, .inl f2)), (r0_7, .inr (2, [.int v3_0, .int v3_1, .int v3_2, .ref r3_3, .ref r3_4, .ref r3_5])), (r3_3, .inl (k4, 14, .inl f4)), (h1, .inl (k5, 14, .inl f5)), (r0_4, .inl (k6, 4, .inl f6))]) [6, 0, 1, 2, 3, 4, 5] rfl
      have hD := hD.sub (ws' := [(h0, .inr (9, [.int v0_0, .ref r0_1, .ref r0_2, .ref r0_3, .ref r0_4, .int v0_5, .ref r0_6, .ref r0_7, .ref r0_8])), (r0_6, .inr (4, [.int v1_0, .int v1_1, .ref r1_2, .ref r1_3, .ref r1_4, .ref r1_5, .ref r1_6, .ref r1_7, .ref r1_8, .ref r1_9])), (r1_8, .inl (k2, 28, .inl f2)), (r0_7, .inr (2, [.int v3_0, .int v3_1, .int v3_2, .ref r3_3, .ref r3_4, .ref r3_5])), (r3_3, .inl (k4, 14, .inl f4)), (h1, .inl (k5, 14, .inl f5)), (r0_4, .inl (k6, 4, .inl f6))]) [6, 0, 1, 2, 3, 4, 5] (by decide) rfl
      have hP : va_P (dC, dI) vwCl [(h0, .inr (9, [.int v0_0, .ref r0_1, .ref r0_2, .ref r0_3, .ref r0_4, .int v0_5, .ref r0_6, .ref r0_7, .ref r0_8])), (r0_6, .inr (4, [.int v1_0, .int v1_1, .ref r1_2, .ref r1_3, .ref r1_4, .ref r1_5, .ref r1_6, .ref r1_7, .ref r1_8, .ref r1_9])), (r1_8, .inl (k2, 28, .inl f2)), (r0_7, .inr (2, [.int v3_0, .int v3_1, .int v3_2, .ref r3_3, .ref r3_4, .ref r3_5])), (r3_3, .inl (k4, 14, .inl f4)), (h1, .inl (k5, 14, .inl f5)), (r0_4, .inl (k6, 4, .inl f6))] H := hP
      have hD : va_D A [(h0, .inr (9, [.int v0_0, .ref r0_1, .ref r0_2, .ref r0_3, .ref r0_4, .int v0_5, .ref r0_6, .ref r0_7, .ref r0_8])), (r0_6, .inr (4, [.int v1_0, .int v1_1, .ref r1_2, .ref r1_3, .ref r1_4, .ref r1_5, .ref r1_6, .ref r1_7, .ref r1_8, .ref r1_9])), (r1_8, .inl (k2, 28, .inl f2)), (r0_7, .inr (2, [.int v3_0, .int v3_1, .int v3_2, .ref r3_3, .ref r3_4, .ref r3_5])), (r3_3, .inl (k4, 14, .inl f4)), (h1, .inl (k5, 14, .inl f5)), (r0_4, .inl (k6, 4, .inl f6))] := hD
      obtain ⟨hr_9, hir_9, -⟩ := hw_11
      refine lv_if_eq (tgt := 52) hx hb dX9_priceOf_39 (by decide) (fun c_12 => ?_) (fun c_12 => ?_)
      · have oc_12 := zk_eq rfl (by decide +kernel : (0 : Int32).toInt = 0) c_12
        refine lv_iconst (v := 0) hx hb dX9_priceOf_52 (by decide +kernel) ?_
        refine lv_iadd hx hb dX9_priceOf_53 ?_
        refine lv_topi (fun x_13 ex_13 => ?_)
        refine lv_istore_n (lv' := [(2, .int x_13), (4, .int r_6), (3, .int y13_3), (0, .ref h0), (1, .ref h1)]) hx hb dX9_priceOf_54 rfl hl (by decide) rfl (fun ls hl => ?_)
        obtain ⟨x_14, ex_14⟩ : ∃ y : Int32, y = y13_3 + 1 := ⟨_, rfl⟩
        refine lv_iinc (v := x_14) (lv' := [(3, .int x_14), (2, .int x_13), (4, .int r_6), (0, .ref h0), (1, .ref h1)]) hx hb dX9_priceOf_55 hl (k := 2) rfl (by rw [ex_14]; rfl) (by decide) rfl (fun ls hl => ?_)
        have hx_14 := zo_add ex_14 rfl (by decide +kernel : (1 : Int32).toInt = 1) (by omega)
        refine lv_goto (tgt := 13) hx hb dX9_priceOf_58 (by decide) ?_
        exact ih13  x_13 x_14 H locs ls (by omega) (by omega) (by omega)  (by omega) hP hD hS (lv_sub hl [0, 1, 3, 4] rfl)
      have oc_12 := zk_ne rfl (by decide +kernel : (0 : Int32).toInt = 0) c_12
      refine lv_aload_n hx hb dX9_priceOf_42 rfl (lv_at hl 3 rfl) ?_
      refine va_get (D := (dC, dI)) (ci := 9) (v := .ref r0_4) (C := RX9) (T := TX9) (N := 9) hx hb hts zn_X9_priceOf_X9 hown hK hP 0 rfl rfl 4 (by decide) (hts (.fieldLink RX9 21 "ShortEnough$Task" "price" "[I") zw_X9_priceOf_106) (fun _ h9 => h9) rfl dX9_priceOf_43 ?_
      refine lv_iload hx hb dX9_priceOf_46 (lv_at hl 0 rfl) ?_
      refine va_iald hx hb hK hP 6 3 rfl rfl (vp_in_iff.mpr ⟨by omega, by omega⟩) dX9_priceOf_48 ?_
      refine lv_topi (fun x_15 ex_15 => ?_)
      refine lv_goto (tgt := 53) hx hb dX9_priceOf_49 (by decide) ?_
      refine lv_iadd hx hb dX9_priceOf_53 ?_
      refine lv_topi (fun x_16 ex_16 => ?_)
      refine lv_istore_n (lv' := [(2, .int x_16), (4, .int r_6), (3, .int y13_3), (0, .ref h0), (1, .ref h1)]) hx hb dX9_priceOf_54 rfl hl (by decide) rfl (fun ls hl => ?_)
      obtain ⟨x_17, ex_17⟩ : ∃ y : Int32, y = y13_3 + 1 := ⟨_, rfl⟩
      refine lv_iinc (v := x_17) (lv' := [(3, .int x_17), (2, .int x_16), (4, .int r_6), (0, .ref h0), (1, .ref h1)]) hx hb dX9_priceOf_55 hl (k := 2) rfl (by rw [ex_17]; rfl) (by decide) rfl (fun ls hl => ?_)
      have hx_17 := zo_add ex_17 rfl (by decide +kernel : (1 : Int32).toInt = 1) (by omega)
      refine lv_goto (tgt := 13) hx hb dX9_priceOf_58 (by decide) ?_
      exact ih13  x_16 x_17 H locs ls (by omega) (by omega) (by omega)  (by omega) hP hD hS (lv_sub hl [0, 1, 3, 4] rfl)
  have kk0 : (0 : Int32).toInt = 0 := (by decide +kernel)
  exact lp13 ((15 - (0 : Int32).toInt).toNat + 1) x_4 0 H locs ls (by omega) (by omega) (by omega)  (by omega) hP hD hS (lv_sub hl [0, 1, 2, 3] rfl)
set_option maxHeartbeats 4000000 in
set_option maxRecDepth 100000 in
theorem zs_X9_addFormat (l : Launch) (dC : Nat → ClassId) (dI : Nat → Nat → Nat) (h0 : Nat) (p1 : Int32) (p2 : Int32) (p3 : Int32) (p4 : Int32) (v0_0 : Int32) (r0_1 : Nat) (r0_2 : Nat) (r0_3 : Nat) (r0_4 : Nat) (v0_5 : Int32) (r0_6 : Nat) (r0_7 : Nat) (r0_8 : Nat) (k1 : Nat) (f1 : Nat → Int32) (k2 : Nat) (f2 : Nat → Int32) (k3 : Nat) (f3 : Nat → Int32) (k4 : Nat) (f4 : Nat → Int32) (hq_v0_0 : (0 : Int) ≤ v0_0.toInt ∧ v0_0.toInt ≤ 4) (sz : Nat) : Met l yX9_addFormat wsX9_addFormat ({ frames := 0, cells := 0, slots := 0, locals := 0 }) (va_Pc [.ref h0, .int p1, .int p2, .int p3, .int p4] (fun U => U.heap.size = sz ∧ va_P (dC, dI) vwCl [(h0, .inr (9, [.int v0_0, .ref r0_1, .ref r0_2, .ref r0_3, .ref r0_4, .int v0_5, .ref r0_6, .ref r0_7, .ref r0_8])), (r0_1, .inl (k1, 4, .inl f1)), (r0_2, .inl (k2, 4, .inl f2)), (r0_3, .inl (k3, 4, .inl f3)), (r0_4, .inl (k4, 4, .inl f4))] U.heap ∧ va_K (dC, dI) vwCl [(k1, .int), (k2, .int), (k3, .int), (k4, .int)] U ∧ va_D (fun _ => True) [(h0, .inr (9, [.int v0_0, .ref r0_1, .ref r0_2, .ref r0_3, .ref r0_4, .int v0_5, .ref r0_6, .ref r0_7, .ref r0_8])), (r0_1, .inl (k1, 4, .inl f1)), (r0_2, .inl (k2, 4, .inl f2)), (r0_3, .inl (k3, 4, .inl f3)), (r0_4, .inl (k4, 4, .inl f4))])) (va_Qv (fun (u : zV) => ((0 : Int) ≤ (u.1 0).toInt ∧ (u.1 0).toInt ≤ 4) ∧ True) (fun u t => va_P (dC, dI) vwCl [(h0, .inr (9, [.int (u.1 0), .ref r0_1, .ref r0_2, .ref r0_3, .ref r0_4, .int v0_5, .ref r0_6, .ref r0_7, .ref r0_8])), (r0_1, .inl (k1, 4, .inl (u.2.1 0))), (r0_2, .inl (k2, 4, .inl (u.2.1 1))), (r0_3, .inl (k3, 4, .inl (u.2.1 2))), (r0_4, .inl (k4, 4, .inl (u.2.1 3)))] t.heap ∧ va_K (dC, dI) vwCl [(k1, .int), (k2, .int), (k3, .int), (k4, .int)] t ∧ va_D (va_A [(h0, .inr (9, [.int v0_0, .ref r0_1, .ref r0_2, .ref r0_3, .ref r0_4, .int v0_5, .ref r0_6, .ref r0_7, .ref r0_8])), (r0_1, .inl (k1, 4, .inl f1)), (r0_2, .inl (k2, 4, .inl f2)), (r0_3, .inl (k3, 4, .inl f3)), (r0_4, .inl (k4, 4, .inl f4))] sz) [(h0, .inr (9, [.int (u.1 0), .ref r0_1, .ref r0_2, .ref r0_3, .ref r0_4, .int v0_5, .ref r0_6, .ref r0_7, .ref r0_8])), (r0_1, .inl (k1, 4, .inl (u.2.1 0))), (r0_2, .inl (k2, 4, .inl (u.2.1 1))), (r0_3, .inl (k3, 4, .inl (u.2.1 2))), (r0_4, .inl (k4, 4, .inl (u.2.1 3)))]) (va_A [(h0, .inr (9, [.int v0_0, .ref r0_1, .ref r0_2, .ref r0_3, .ref r0_4, .int v0_5, .ref r0_6, .ref r0_7, .ref r0_8])), (r0_1, .inl (k1, 4, .inl f1)), (r0_2, .inl (k2, 4, .inl f2)), (r0_3, .inl (k3, 4, .inl f3)), (r0_4, .inl (k4, 4, .inl f4))] sz)) 0 0 (va_A [(h0, .inr (9, [.int v0_0, .ref r0_1, .ref r0_2, .ref r0_3, .ref r0_4, .int v0_5, .ref r0_6, .ref r0_7, .ref r0_8])), (r0_1, .inl (k1, 4, .inl f1)), (r0_2, .inl (k2, 4, .inl f2)), (r0_3, .inl (k3, 4, .inl f3)), (r0_4, .inl (k4, 4, .inl f4))] sz) := by
  refine Met.ofW (cc := cX9_addFormat) (maxL := 5) (ret := none) (by decide +kernel) rfl ?_
  intro p e s m args below meth c s₁ B hml hv
  obtain ⟨rfl, hsz, hP, hK, hD0⟩ := hv
  have hx := B.exec
  have hb := B.bytes
  have hr := B.returns
  have hts := atoms_spec (ws := wsX9_addFormat) B.pre
  have hown : s.vm.findClass RX9 = some m.cls := findClass_of_methodNamed B.named
  have hlocks := B.notSynchronized
  subst hsz
  have hD := hD0.self (sz := s.heap.size)
  generalize hAe : va_A [(h0, .inr (9, [.int v0_0, .ref r0_1, .ref r0_2, .ref r0_3, .ref r0_4, .int v0_5, .ref r0_6, .ref r0_7, .ref r0_8])), (r0_1, .inl (k1, 4, .inl f1)), (r0_2, .inl (k2, 4, .inl f2)), (r0_3, .inl (k3, 4, .inl f3)), (r0_4, .inl (k4, 4, .inl f4))] s.heap.size = A at hD ⊢
  have hA : ∀ q : Nat, s.heap.size ≤ q → A q := fun q h => by rw [← hAe]; exact Or.inr h
  have hS : va_S A s.heap s.heap [] := va_S.rf
  have hP : va_P (dC, dI) vwCl [(h0, .inr (9, [.int v0_0, .ref r0_1, .ref r0_2, .ref r0_3, .ref r0_4, .int v0_5, .ref r0_6, .ref r0_7, .ref r0_8])), (r0_1, .inl (k1, 4, .inl f1)), (r0_2, .inl (k2, 4, .inl f2)), (r0_3, .inl (k3, 4, .inl f3)), (r0_4, .inl (k4, 4, .inl f4))] s.heap := hP
  have hl := lv_entry ([.ref h0, .int p1, .int p2, .int p3, .int p4]) (n := 5) (Nat.le_of_ble_eq_true rfl)
  rw [lg_entry_eq]
  generalize (lg_sl ([.ref h0, .int p1, .int p2, .int p3, .int p4]) ++ List.replicate (5 - (lg_sl ([.ref h0, .int p1, .int p2, .int p3, .int p4])).length) Slot.unset).toArray = ls at hl ⊢
  have hl : lv_has ls 5 [(0, .ref h0), (1, .int p1), (2, .int p2), (3, .int p3), (4, .int p4)] := hl
  generalize hQ : MQ below (va_Qv (fun (u : zV) => ((0 : Int) ≤ (u.1 0).toInt ∧ (u.1 0).toInt ≤ 4) ∧ True) (fun u t => va_P (dC, dI) vwCl [(h0, .inr (9, [.int (u.1 0), .ref r0_1, .ref r0_2, .ref r0_3, .ref r0_4, .int v0_5, .ref r0_6, .ref r0_7, .ref r0_8])), (r0_1, .inl (k1, 4, .inl (u.2.1 0))), (r0_2, .inl (k2, 4, .inl (u.2.1 1))), (r0_3, .inl (k3, 4, .inl (u.2.1 2))), (r0_4, .inl (k4, 4, .inl (u.2.1 3)))] t.heap ∧ va_K (dC, dI) vwCl [(k1, .int), (k2, .int), (k3, .int), (k4, .int)] t ∧ va_D A [(h0, .inr (9, [.int (u.1 0), .ref r0_1, .ref r0_2, .ref r0_3, .ref r0_4, .int v0_5, .ref r0_6, .ref r0_7, .ref r0_8])), (r0_1, .inl (k1, 4, .inl (u.2.1 0))), (r0_2, .inl (k2, 4, .inl (u.2.1 1))), (r0_3, .inl (k3, 4, .inl (u.2.1 2))), (r0_4, .inl (k4, 4, .inl (u.2.1 3)))]) A) ([.ref h0, .int p1, .int p2, .int p3, .int p4] : List Value).toArray s 0 0 A = Q
  refine lv_aload_n hx hb dX9_addFormat_0 rfl (lv_at hl 0 rfl) ?_
  refine va_get (D := (dC, dI)) (ci := 9) (v := .int v0_0) (C := RX9) (T := TX9) (N := 9) hx hb hts zn_X9_addFormat_X9 hown hK hP 0 rfl rfl 0 (by decide) (hts (.fieldLink RX9 45 "ShortEnough$Task" "formats" "I") zw_X9_addFormat_108) (fun _ h9 => h9) rfl dX9_addFormat_1 ?_
  refine lv_iconst (v := 4) hx hb dX9_addFormat_4 (by decide +kernel) ?_
  refine lv_icmp_ge (tgt := 59) hx hb dX9_addFormat_5 (by decide) (fun c_1 => ?_) (fun c_1 => ?_)
  · have oc_1 := zk_le (by decide +kernel : (4 : Int32).toInt = 4) rfl c_1
    have hP9 := hP.sub (ws' := [(h0, .inr (9, [.int v0_0, .ref r0_1, .ref r0_2, .ref r0_3, .ref r0_4, .int v0_5, .ref r0_6, .ref r0_7, .ref r0_8])), (r0_1, .inl (k1, 4, .inl f1)), (r0_2, .inl (k2, 4, .inl f2)), (r0_3, .inl (k3, 4, .inl f3)), (r0_4, .inl (k4, 4, .inl f4))]) [0, 1, 2, 3, 4] rfl
    have hD9 := hD.sub (ws' := [(h0, .inr (9, [.int v0_0, .ref r0_1, .ref r0_2, .ref r0_3, .ref r0_4, .int v0_5, .ref r0_6, .ref r0_7, .ref r0_8])), (r0_1, .inl (k1, 4, .inl f1)), (r0_2, .inl (k2, 4, .inl f2)), (r0_3, .inl (k3, 4, .inl f3)), (r0_4, .inl (k4, 4, .inl f4))]) [0, 1, 2, 3, 4] (by decide) rfl
    have hK9 := hK.sub (tys' := [(k1, .int), (k2, .int), (k3, .int), (k4, .int)]) [0, 1, 2, 3] rfl
    rw [← hQ]
    exact W.vret hx hb hr (fun t ht hW => ⟨⟨((fun k => ([v0_0] : List Int32).getD k 0), (fun k => ([f1, f2, f3, f4] : List (Nat → Int32)).getD k (fun _ => 0)), (fun k => ([] : List (Nat → Int64)).getD k (fun _ => 0))), rfl, ⟨(show (0 : Int) ≤ (v0_0 : Int32).toInt ∧ (v0_0 : Int32).toInt ≤ 4 by omega), trivial⟩, by rw [ht]; exact hP9, va_K.moved hW.alike hK9, hD9⟩, hS.F ht⟩) hS.2.2 dX9_addFormat_59
  have oc_1 := zk_nle (by decide +kernel : (4 : Int32).toInt = 4) rfl c_1
  refine lv_aload_n hx hb dX9_addFormat_8 rfl (lv_at hl 0 rfl) ?_
  refine va_get (D := (dC, dI)) (ci := 9) (v := .ref r0_1) (C := RX9) (T := TX9) (N := 9) hx hb hts zn_X9_addFormat_X9 hown hK hP 0 rfl rfl 1 (by decide) (hts (.fieldLink RX9 9 "ShortEnough$Task" "formatName" "[I") zw_X9_addFormat_109) (fun _ h9 => h9) rfl dX9_addFormat_9 ?_
  refine lv_aload_n hx hb dX9_addFormat_12 rfl (lv_at hl 0 rfl) ?_
  refine va_get (D := (dC, dI)) (ci := 9) (v := .int v0_0) (C := RX9) (T := TX9) (N := 9) hx hb hts zn_X9_addFormat_X9 hown hK hP 0 rfl rfl 0 (by decide) (hts (.fieldLink RX9 45 "ShortEnough$Task" "formats" "I") zw_X9_addFormat_108) (fun _ h9 => h9) rfl dX9_addFormat_13 ?_
  refine lv_iload_n hx hb dX9_addFormat_16 rfl (lv_at hl 1 rfl) ?_
  refine va_iast hx hb hK hP hD hS 1 0 rfl rfl (vp_in_iff.mpr ⟨by omega, by omega⟩) dX9_addFormat_17 (fun H locs hP hD hS => ?_)
  obtain ⟨f_2, ef_2⟩ : ∃ g : Nat → Int32, g = upd f1 (v0_0 : Int32).toNatClampNeg p1 := ⟨_, rfl⟩
  have hP : va_P (dC, dI) vwCl [(h0, .inr (9, [.int v0_0, .ref r0_1, .ref r0_2, .ref r0_3, .ref r0_4, .int v0_5, .ref r0_6, .ref r0_7, .ref r0_8])), (r0_1, .inl (k1, 4, .inl f_2)), (r0_2, .inl (k2, 4, .inl f2)), (r0_3, .inl (k3, 4, .inl f3)), (r0_4, .inl (k4, 4, .inl f4))] H := by rw [ef_2]; exact hP
  have hD : va_D A [(h0, .inr (9, [.int v0_0, .ref r0_1, .ref r0_2, .ref r0_3, .ref r0_4, .int v0_5, .ref r0_6, .ref r0_7, .ref r0_8])), (r0_1, .inl (k1, 4, .inl f_2)), (r0_2, .inl (k2, 4, .inl f2)), (r0_3, .inl (k3, 4, .inl f3)), (r0_4, .inl (k4, 4, .inl f4))] := by rw [ef_2]; exact hD
  refine lv_aload_n hx hb dX9_addFormat_18 rfl (lv_at hl 0 rfl) ?_
  refine va_get (D := (dC, dI)) (ci := 9) (v := .ref r0_2) (C := RX9) (T := TX9) (N := 9) hx hb hts zn_X9_addFormat_X9 hown hK hP 0 rfl rfl 2 (by decide) (hts (.fieldLink RX9 15 "ShortEnough$Task" "step" "[I") zw_X9_addFormat_110) (fun _ h9 => h9) rfl dX9_addFormat_19 ?_
  refine lv_aload_n hx hb dX9_addFormat_22 rfl (lv_at hl 0 rfl) ?_
  refine va_get (D := (dC, dI)) (ci := 9) (v := .int v0_0) (C := RX9) (T := TX9) (N := 9) hx hb hts zn_X9_addFormat_X9 hown hK hP 0 rfl rfl 0 (by decide) (hts (.fieldLink RX9 45 "ShortEnough$Task" "formats" "I") zw_X9_addFormat_108) (fun _ h9 => h9) rfl dX9_addFormat_23 ?_
  refine lv_iload_n hx hb dX9_addFormat_26 rfl (lv_at hl 2 rfl) ?_
  refine va_iast hx hb hK hP hD hS 2 1 rfl rfl (vp_in_iff.mpr ⟨by omega, by omega⟩) dX9_addFormat_27 (fun H locs hP hD hS => ?_)
  obtain ⟨f_3, ef_3⟩ : ∃ g : Nat → Int32, g = upd f2 (v0_0 : Int32).toNatClampNeg p2 := ⟨_, rfl⟩
  have hP : va_P (dC, dI) vwCl [(h0, .inr (9, [.int v0_0, .ref r0_1, .ref r0_2, .ref r0_3, .ref r0_4, .int v0_5, .ref r0_6, .ref r0_7, .ref r0_8])), (r0_1, .inl (k1, 4, .inl f_2)), (r0_2, .inl (k2, 4, .inl f_3)), (r0_3, .inl (k3, 4, .inl f3)), (r0_4, .inl (k4, 4, .inl f4))] H := by rw [ef_3]; exact hP
  have hD : va_D A [(h0, .inr (9, [.int v0_0, .ref r0_1, .ref r0_2, .ref r0_3, .ref r0_4, .int v0_5, .ref r0_6, .ref r0_7, .ref r0_8])), (r0_1, .inl (k1, 4, .inl f_2)), (r0_2, .inl (k2, 4, .inl f_3)), (r0_3, .inl (k3, 4, .inl f3)), (r0_4, .inl (k4, 4, .inl f4))] := by rw [ef_3]; exact hD
  refine lv_aload_n hx hb dX9_addFormat_28 rfl (lv_at hl 0 rfl) ?_
  refine va_get (D := (dC, dI)) (ci := 9) (v := .ref r0_3) (C := RX9) (T := TX9) (N := 9) hx hb hts zn_X9_addFormat_X9 hown hK hP 0 rfl rfl 3 (by decide) (hts (.fieldLink RX9 18 "ShortEnough$Task" "most" "[I") zw_X9_addFormat_111) (fun _ h9 => h9) rfl dX9_addFormat_29 ?_
  refine lv_aload_n hx hb dX9_addFormat_32 rfl (lv_at hl 0 rfl) ?_
  refine va_get (D := (dC, dI)) (ci := 9) (v := .int v0_0) (C := RX9) (T := TX9) (N := 9) hx hb hts zn_X9_addFormat_X9 hown hK hP 0 rfl rfl 0 (by decide) (hts (.fieldLink RX9 45 "ShortEnough$Task" "formats" "I") zw_X9_addFormat_108) (fun _ h9 => h9) rfl dX9_addFormat_33 ?_
  refine lv_iload_n hx hb dX9_addFormat_36 rfl (lv_at hl 3 rfl) ?_
  refine va_iast hx hb hK hP hD hS 3 2 rfl rfl (vp_in_iff.mpr ⟨by omega, by omega⟩) dX9_addFormat_37 (fun H locs hP hD hS => ?_)
  obtain ⟨f_4, ef_4⟩ : ∃ g : Nat → Int32, g = upd f3 (v0_0 : Int32).toNatClampNeg p3 := ⟨_, rfl⟩
  have hP : va_P (dC, dI) vwCl [(h0, .inr (9, [.int v0_0, .ref r0_1, .ref r0_2, .ref r0_3, .ref r0_4, .int v0_5, .ref r0_6, .ref r0_7, .ref r0_8])), (r0_1, .inl (k1, 4, .inl f_2)), (r0_2, .inl (k2, 4, .inl f_3)), (r0_3, .inl (k3, 4, .inl f_4)), (r0_4, .inl (k4, 4, .inl f4))] H := by rw [ef_4]; exact hP
  have hD : va_D A [(h0, .inr (9, [.int v0_0, .ref r0_1, .ref r0_2, .ref r0_3, .ref r0_4, .int v0_5, .ref r0_6, .ref r0_7, .ref r0_8])), (r0_1, .inl (k1, 4, .inl f_2)), (r0_2, .inl (k2, 4, .inl f_3)), (r0_3, .inl (k3, 4, .inl f_4)), (r0_4, .inl (k4, 4, .inl f4))] := by rw [ef_4]; exact hD
  refine lv_aload_n hx hb dX9_addFormat_38 rfl (lv_at hl 0 rfl) ?_
  refine va_get (D := (dC, dI)) (ci := 9) (v := .ref r0_4) (C := RX9) (T := TX9) (N := 9) hx hb hts zn_X9_addFormat_X9 hown hK hP 0 rfl rfl 4 (by decide) (hts (.fieldLink RX9 21 "ShortEnough$Task" "price" "[I") zw_X9_addFormat_112) (fun _ h9 => h9) rfl dX9_addFormat_39 ?_
  refine lv_aload_n hx hb dX9_addFormat_42 rfl (lv_at hl 0 rfl) ?_
  refine va_get (D := (dC, dI)) (ci := 9) (v := .int v0_0) (C := RX9) (T := TX9) (N := 9) hx hb hts zn_X9_addFormat_X9 hown hK hP 0 rfl rfl 0 (by decide) (hts (.fieldLink RX9 45 "ShortEnough$Task" "formats" "I") zw_X9_addFormat_108) (fun _ h9 => h9) rfl dX9_addFormat_43 ?_
  refine lv_iload hx hb dX9_addFormat_46 (lv_at hl 4 rfl) ?_
  refine va_iast hx hb hK hP hD hS 4 3 rfl rfl (vp_in_iff.mpr ⟨by omega, by omega⟩) dX9_addFormat_48 (fun H locs hP hD hS => ?_)
  obtain ⟨f_5, ef_5⟩ : ∃ g : Nat → Int32, g = upd f4 (v0_0 : Int32).toNatClampNeg p4 := ⟨_, rfl⟩
  have hP : va_P (dC, dI) vwCl [(h0, .inr (9, [.int v0_0, .ref r0_1, .ref r0_2, .ref r0_3, .ref r0_4, .int v0_5, .ref r0_6, .ref r0_7, .ref r0_8])), (r0_1, .inl (k1, 4, .inl f_2)), (r0_2, .inl (k2, 4, .inl f_3)), (r0_3, .inl (k3, 4, .inl f_4)), (r0_4, .inl (k4, 4, .inl f_5))] H := by rw [ef_5]; exact hP
  have hD : va_D A [(h0, .inr (9, [.int v0_0, .ref r0_1, .ref r0_2, .ref r0_3, .ref r0_4, .int v0_5, .ref r0_6, .ref r0_7, .ref r0_8])), (r0_1, .inl (k1, 4, .inl f_2)), (r0_2, .inl (k2, 4, .inl f_3)), (r0_3, .inl (k3, 4, .inl f_4)), (r0_4, .inl (k4, 4, .inl f_5))] := by rw [ef_5]; exact hD
  refine lv_aload_n hx hb dX9_addFormat_49 rfl (lv_at hl 0 rfl) ?_
  refine lv_dup hx hb dX9_addFormat_50 rfl ?_
  refine va_get (D := (dC, dI)) (ci := 9) (v := .int v0_0) (C := RX9) (T := TX9) (N := 9) hx hb hts zn_X9_addFormat_X9 hown hK hP 0 rfl rfl 0 (by decide) (hts (.fieldLink RX9 45 "ShortEnough$Task" "formats" "I") zw_X9_addFormat_108) (fun _ h9 => h9) rfl dX9_addFormat_51 ?_
  refine lv_iconst (v := 1) hx hb dX9_addFormat_54 (by decide +kernel) ?_
  refine lv_iadd hx hb dX9_addFormat_55 ?_
  refine lv_topi (fun x_6 ex_6 => ?_)
  have hx_6 := zo_add ex_6 rfl (by decide +kernel : (1 : Int32).toInt = 1) (by omega)
  refine va_put (D := (dC, dI)) (ci := 9) (v := .int x_6) (ty := .int) (C := RX9) (T := TX9) (N := 9) hx hb hts zn_X9_addFormat_X9 tyX9 tyX9_ok nmX9 hown hK hP hD hS 0 rfl rfl 0 (by decide) (hts (.fieldLink RX9 45 "ShortEnough$Task" "formats" "I") zw_X9_addFormat_108) (fun _ h9 => h9) rfl (by decide +kernel) rfl rfl (Nat.le_of_ble_eq_true rfl) dX9_addFormat_56 (fun H locs hP hD hS => ?_)
  have hP : va_P (dC, dI) vwCl [(h0, .inr (9, [.int x_6, .ref r0_1, .ref r0_2, .ref r0_3, .ref r0_4, .int v0_5, .ref r0_6, .ref r0_7, .ref r0_8])), (r0_1, .inl (k1, 4, .inl f_2)), (r0_2, .inl (k2, 4, .inl f_3)), (r0_3, .inl (k3, 4, .inl f_4)), (r0_4, .inl (k4, 4, .inl f_5))] H := hP
  have hD : va_D A [(h0, .inr (9, [.int x_6, .ref r0_1, .ref r0_2, .ref r0_3, .ref r0_4, .int v0_5, .ref r0_6, .ref r0_7, .ref r0_8])), (r0_1, .inl (k1, 4, .inl f_2)), (r0_2, .inl (k2, 4, .inl f_3)), (r0_3, .inl (k3, 4, .inl f_4)), (r0_4, .inl (k4, 4, .inl f_5))] := hD
  have hP9 := hP.sub (ws' := [(h0, .inr (9, [.int x_6, .ref r0_1, .ref r0_2, .ref r0_3, .ref r0_4, .int v0_5, .ref r0_6, .ref r0_7, .ref r0_8])), (r0_1, .inl (k1, 4, .inl f_2)), (r0_2, .inl (k2, 4, .inl f_3)), (r0_3, .inl (k3, 4, .inl f_4)), (r0_4, .inl (k4, 4, .inl f_5))]) [0, 1, 2, 3, 4] rfl
  have hD9 := hD.sub (ws' := [(h0, .inr (9, [.int x_6, .ref r0_1, .ref r0_2, .ref r0_3, .ref r0_4, .int v0_5, .ref r0_6, .ref r0_7, .ref r0_8])), (r0_1, .inl (k1, 4, .inl f_2)), (r0_2, .inl (k2, 4, .inl f_3)), (r0_3, .inl (k3, 4, .inl f_4)), (r0_4, .inl (k4, 4, .inl f_5))]) [0, 1, 2, 3, 4] (by decide) rfl
  have hK9 := hK.sub (tys' := [(k1, .int), (k2, .int), (k3, .int), (k4, .int)]) [0, 1, 2, 3] rfl
  rw [← hQ]
  exact W.vret hx hb hr (fun t ht hW => ⟨⟨((fun k => ([x_6] : List Int32).getD k 0), (fun k => ([f_2, f_3, f_4, f_5] : List (Nat → Int32)).getD k (fun _ => 0)), (fun k => ([] : List (Nat → Int64)).getD k (fun _ => 0))), rfl, ⟨(show (0 : Int) ≤ (x_6 : Int32).toInt ∧ (x_6 : Int32).toInt ≤ 4 by omega), trivial⟩, by rw [ht]; exact hP9, va_K.moved hW.alike hK9, hD9⟩, hS.F ht⟩) hS.2.2 dX9_addFormat_59
set_option maxHeartbeats 4000000 in
set_option maxRecDepth 100000 in
theorem zs_X9_clear (l : Launch) (dC : Nat → ClassId) (dI : Nat → Nat → Nat) (h0 : Nat) (v0_0 : Int32) (r0_1 : Nat) (r0_2 : Nat) (r0_3 : Nat) (r0_4 : Nat) (v0_5 : Int32) (r0_6 : Nat) (r0_7 : Nat) (r0_8 : Nat) (v1_0 : Int32) (v1_1 : Int32) (r1_2 : Nat) (r1_3 : Nat) (r1_4 : Nat) (r1_5 : Nat) (r1_6 : Nat) (r1_7 : Nat) (r1_8 : Nat) (r1_9 : Nat) (hq_v0_0 : (0 : Int) ≤ v0_0.toInt ∧ v0_0.toInt ≤ 4) (hq_v1_0 : (0 : Int) ≤ v1_0.toInt ∧ v1_0.toInt ≤ 14) (sz : Nat) : Met l yX9_clear wsX9_clear ({ frames := 0, cells := 0, slots := 0, locals := 0 }) (va_Pc [.ref h0] (fun U => U.heap.size = sz ∧ va_P (dC, dI) vwCl [(h0, .inr (9, [.int v0_0, .ref r0_1, .ref r0_2, .ref r0_3, .ref r0_4, .int v0_5, .ref r0_6, .ref r0_7, .ref r0_8])), (r0_6, .inr (4, [.int v1_0, .int v1_1, .ref r1_2, .ref r1_3, .ref r1_4, .ref r1_5, .ref r1_6, .ref r1_7, .ref r1_8, .ref r1_9]))] U.heap ∧ va_K (dC, dI) vwCl [] U ∧ va_D (fun _ => True) [(h0, .inr (9, [.int v0_0, .ref r0_1, .ref r0_2, .ref r0_3, .ref r0_4, .int v0_5, .ref r0_6, .ref r0_7, .ref r0_8])), (r0_6, .inr (4, [.int v1_0, .int v1_1, .ref r1_2, .ref r1_3, .ref r1_4, .ref r1_5, .ref r1_6, .ref r1_7, .ref r1_8, .ref r1_9]))])) (va_Qv (fun (u : zV) => ((0 : Int) ≤ (u.1 0).toInt ∧ (u.1 0).toInt ≤ 4) ∧ ((0 : Int) ≤ (u.1 2).toInt ∧ (u.1 2).toInt ≤ 14) ∧ True) (fun u t => va_P (dC, dI) vwCl [(h0, .inr (9, [.int (u.1 0), .ref r0_1, .ref r0_2, .ref r0_3, .ref r0_4, .int (u.1 1), .ref r0_6, .ref r0_7, .ref r0_8])), (r0_6, .inr (4, [.int (u.1 2), .int (u.1 3), .ref r1_2, .ref r1_3, .ref r1_4, .ref r1_5, .ref r1_6, .ref r1_7, .ref r1_8, .ref r1_9]))] t.heap ∧ va_K (dC, dI) vwCl [] t ∧ va_D (va_A [(h0, .inr (9, [.int v0_0, .ref r0_1, .ref r0_2, .ref r0_3, .ref r0_4, .int v0_5, .ref r0_6, .ref r0_7, .ref r0_8])), (r0_6, .inr (4, [.int v1_0, .int v1_1, .ref r1_2, .ref r1_3, .ref r1_4, .ref r1_5, .ref r1_6, .ref r1_7, .ref r1_8, .ref r1_9]))] sz) [(h0, .inr (9, [.int (u.1 0), .ref r0_1, .ref r0_2, .ref r0_3, .ref r0_4, .int (u.1 1), .ref r0_6, .ref r0_7, .ref r0_8])), (r0_6, .inr (4, [.int (u.1 2), .int (u.1 3), .ref r1_2, .ref r1_3, .ref r1_4, .ref r1_5, .ref r1_6, .ref r1_7, .ref r1_8, .ref r1_9]))]) (va_A [(h0, .inr (9, [.int v0_0, .ref r0_1, .ref r0_2, .ref r0_3, .ref r0_4, .int v0_5, .ref r0_6, .ref r0_7, .ref r0_8])), (r0_6, .inr (4, [.int v1_0, .int v1_1, .ref r1_2, .ref r1_3, .ref r1_4, .ref r1_5, .ref r1_6, .ref r1_7, .ref r1_8, .ref r1_9]))] sz)) 0 0 (va_A [(h0, .inr (9, [.int v0_0, .ref r0_1, .ref r0_2, .ref r0_3, .ref r0_4, .int v0_5, .ref r0_6, .ref r0_7, .ref r0_8])), (r0_6, .inr (4, [.int v1_0, .int v1_1, .ref r1_2, .ref r1_3, .ref r1_4, .ref r1_5, .ref r1_6, .ref r1_7, .ref r1_8, .ref r1_9]))] sz) := by
  refine Met.ofW (cc := cX9_clear) (maxL := 1) (ret := none) (by decide +kernel) rfl ?_
  intro p e s m args below meth c s₁ B hml hv
  obtain ⟨rfl, hsz, hP, hK, hD0⟩ := hv
  have hx := B.exec
  have hb := B.bytes
  have hr := B.returns
  have hts := atoms_spec (ws := wsX9_clear) B.pre
  have hown : s.vm.findClass RX9 = some m.cls := findClass_of_methodNamed B.named
  have hlocks := B.notSynchronized
  subst hsz
  have hD := hD0.self (sz := s.heap.size)
  generalize hAe : va_A [(h0, .inr (9, [.int v0_0, .ref r0_1, .ref r0_2, .ref r0_3, .ref r0_4, .int v0_5, .ref r0_6, .ref r0_7, .ref r0_8])), (r0_6, .inr (4, [.int v1_0, .int v1_1, .ref r1_2, .ref r1_3, .ref r1_4, .ref r1_5, .ref r1_6, .ref r1_7, .ref r1_8, .ref r1_9]))] s.heap.size = A at hD ⊢
  have hA : ∀ q : Nat, s.heap.size ≤ q → A q := fun q h => by rw [← hAe]; exact Or.inr h
  have hS : va_S A s.heap s.heap [] := va_S.rf
  have hP : va_P (dC, dI) vwCl [(h0, .inr (9, [.int v0_0, .ref r0_1, .ref r0_2, .ref r0_3, .ref r0_4, .int v0_5, .ref r0_6, .ref r0_7, .ref r0_8])), (r0_6, .inr (4, [.int v1_0, .int v1_1, .ref r1_2, .ref r1_3, .ref r1_4, .ref r1_5, .ref r1_6, .ref r1_7, .ref r1_8, .ref r1_9]))] s.heap := hP
  have hl := lv_entry ([.ref h0]) (n := 1) (Nat.le_of_ble_eq_true rfl)
  rw [lg_entry_eq]
  generalize (lg_sl ([.ref h0]) ++ List.replicate (1 - (lg_sl ([.ref h0])).length) Slot.unset).toArray = ls at hl ⊢
  have hl : lv_has ls 1 [(0, .ref h0)] := hl
  generalize hQ : MQ below (va_Qv (fun (u : zV) => ((0 : Int) ≤ (u.1 0).toInt ∧ (u.1 0).toInt ≤ 4) ∧ ((0 : Int) ≤ (u.1 2).toInt ∧ (u.1 2).toInt ≤ 14) ∧ True) (fun u t => va_P (dC, dI) vwCl [(h0, .inr (9, [.int (u.1 0), .ref r0_1, .ref r0_2, .ref r0_3, .ref r0_4, .int (u.1 1), .ref r0_6, .ref r0_7, .ref r0_8])), (r0_6, .inr (4, [.int (u.1 2), .int (u.1 3), .ref r1_2, .ref r1_3, .ref r1_4, .ref r1_5, .ref r1_6, .ref r1_7, .ref r1_8, .ref r1_9]))] t.heap ∧ va_K (dC, dI) vwCl [] t ∧ va_D A [(h0, .inr (9, [.int (u.1 0), .ref r0_1, .ref r0_2, .ref r0_3, .ref r0_4, .int (u.1 1), .ref r0_6, .ref r0_7, .ref r0_8])), (r0_6, .inr (4, [.int (u.1 2), .int (u.1 3), .ref r1_2, .ref r1_3, .ref r1_4, .ref r1_5, .ref r1_6, .ref r1_7, .ref r1_8, .ref r1_9]))]) A) ([.ref h0] : List Value).toArray s 0 0 A = Q
  refine lv_aload_n hx hb dX9_clear_0 rfl (lv_at hl 0 rfl) ?_
  refine lv_iconst (v := 0) hx hb dX9_clear_1 (by decide +kernel) ?_
  refine va_put (D := (dC, dI)) (ci := 9) (v := .int 0) (ty := .int) (C := RX9) (T := TX9) (N := 9) hx hb hts zn_X9_clear_X9 tyX9 tyX9_ok nmX9 hown hK hP hD hS 0 rfl rfl 0 (by decide) (hts (.fieldLink RX9 45 "ShortEnough$Task" "formats" "I") zw_X9_clear_114) (fun _ h9 => h9) rfl (by decide +kernel) rfl rfl (Nat.le_of_ble_eq_true rfl) dX9_clear_2 (fun H locs hP hD hS => ?_)
  have hP : va_P (dC, dI) vwCl [(h0, .inr (9, [.int 0, .ref r0_1, .ref r0_2, .ref r0_3, .ref r0_4, .int v0_5, .ref r0_6, .ref r0_7, .ref r0_8])), (r0_6, .inr (4, [.int v1_0, .int v1_1, .ref r1_2, .ref r1_3, .ref r1_4, .ref r1_5, .ref r1_6, .ref r1_7, .ref r1_8, .ref r1_9]))] H := hP
  have hD : va_D A [(h0, .inr (9, [.int 0, .ref r0_1, .ref r0_2, .ref r0_3, .ref r0_4, .int v0_5, .ref r0_6, .ref r0_7, .ref r0_8])), (r0_6, .inr (4, [.int v1_0, .int v1_1, .ref r1_2, .ref r1_3, .ref r1_4, .ref r1_5, .ref r1_6, .ref r1_7, .ref r1_8, .ref r1_9]))] := hD
  refine lv_aload_n hx hb dX9_clear_5 rfl (lv_at hl 0 rfl) ?_
  refine lv_iconst (v := 1) hx hb dX9_clear_6 (by decide +kernel) ?_
  refine va_put (D := (dC, dI)) (ci := 9) (v := .int 1) (ty := .int) (C := RX9) (T := TX9) (N := 9) hx hb hts zn_X9_clear_X9 tyX9 tyX9_ok nmX9 hown hK hP hD hS 0 rfl rfl 5 (by decide) (hts (.fieldLink RX9 49 "ShortEnough$Task" "castPrice" "I") zw_X9_clear_115) (fun _ h9 => h9) rfl (by decide +kernel) rfl rfl (Nat.le_of_ble_eq_true rfl) dX9_clear_7 (fun H locs hP hD hS => ?_)
  have hP : va_P (dC, dI) vwCl [(h0, .inr (9, [.int 0, .ref r0_1, .ref r0_2, .ref r0_3, .ref r0_4, .int 1, .ref r0_6, .ref r0_7, .ref r0_8])), (r0_6, .inr (4, [.int v1_0, .int v1_1, .ref r1_2, .ref r1_3, .ref r1_4, .ref r1_5, .ref r1_6, .ref r1_7, .ref r1_8, .ref r1_9]))] H := hP
  have hD : va_D A [(h0, .inr (9, [.int 0, .ref r0_1, .ref r0_2, .ref r0_3, .ref r0_4, .int 1, .ref r0_6, .ref r0_7, .ref r0_8])), (r0_6, .inr (4, [.int v1_0, .int v1_1, .ref r1_2, .ref r1_3, .ref r1_4, .ref r1_5, .ref r1_6, .ref r1_7, .ref r1_8, .ref r1_9]))] := hD
  refine lv_aload_n hx hb dX9_clear_10 rfl (lv_at hl 0 rfl) ?_
  refine va_get (D := (dC, dI)) (ci := 9) (v := .ref r0_6) (C := RX9) (T := TX9) (N := 9) hx hb hts zn_X9_clear_X9 hown hK hP 0 rfl rfl 6 (by decide) (hts (.fieldLink RX9 27 "ShortEnough$Task" "numbers" "LShortEnough$Numbers;") zw_X9_clear_116) (fun _ h9 => h9) rfl dX9_clear_11 ?_
  refine lv_iconst (v := 0) hx hb dX9_clear_14 (by decide +kernel) ?_
  refine va_put (D := (dC, dI)) (ci := 4) (v := .int 0) (ty := .int) (C := RX4) (T := TX4) (N := 10) hx hb hts zn_X9_clear_X4 tyX4 tyX4_ok nmX4 hown hK hP hD hS 1 rfl rfl 0 (by decide) (hts (.fieldLink RX9 52 "ShortEnough$Numbers" "count" "I") zw_X9_clear_118) (fun _ h9 => h9) rfl (by decide +kernel) rfl rfl (Nat.le_of_ble_eq_true rfl) dX9_clear_15 (fun H locs hP hD hS => ?_)
  have hP : va_P (dC, dI) vwCl [(h0, .inr (9, [.int 0, .ref r0_1, .ref r0_2, .ref r0_3, .ref r0_4, .int 1, .ref r0_6, .ref r0_7, .ref r0_8])), (r0_6, .inr (4, [.int 0, .int v1_1, .ref r1_2, .ref r1_3, .ref r1_4, .ref r1_5, .ref r1_6, .ref r1_7, .ref r1_8, .ref r1_9]))] H := hP
  have hD : va_D A [(h0, .inr (9, [.int 0, .ref r0_1, .ref r0_2, .ref r0_3, .ref r0_4, .int 1, .ref r0_6, .ref r0_7, .ref r0_8])), (r0_6, .inr (4, [.int 0, .int v1_1, .ref r1_2, .ref r1_3, .ref r1_4, .ref r1_5, .ref r1_6, .ref r1_7, .ref r1_8, .ref r1_9]))] := hD
  refine lv_aload_n hx hb dX9_clear_18 rfl (lv_at hl 0 rfl) ?_
  refine va_get (D := (dC, dI)) (ci := 9) (v := .ref r0_6) (C := RX9) (T := TX9) (N := 9) hx hb hts zn_X9_clear_X9 hown hK hP 0 rfl rfl 6 (by decide) (hts (.fieldLink RX9 27 "ShortEnough$Task" "numbers" "LShortEnough$Numbers;") zw_X9_clear_116) (fun _ h9 => h9) rfl dX9_clear_19 ?_
  refine lv_iconst (v := 0) hx hb dX9_clear_22 (by decide +kernel) ?_
  refine va_put (D := (dC, dI)) (ci := 4) (v := .int 0) (ty := .int) (C := RX4) (T := TX4) (N := 10) hx hb hts zn_X9_clear_X4 tyX4 tyX4_ok nmX4 hown hK hP hD hS 1 rfl rfl 1 (by decide) (hts (.fieldLink RX9 55 "ShortEnough$Numbers" "inputs" "I") zw_X9_clear_119) (fun _ h9 => h9) rfl (by decide +kernel) rfl rfl (Nat.le_of_ble_eq_true rfl) dX9_clear_23 (fun H locs hP hD hS => ?_)
  have hP : va_P (dC, dI) vwCl [(h0, .inr (9, [.int 0, .ref r0_1, .ref r0_2, .ref r0_3, .ref r0_4, .int 1, .ref r0_6, .ref r0_7, .ref r0_8])), (r0_6, .inr (4, [.int 0, .int 0, .ref r1_2, .ref r1_3, .ref r1_4, .ref r1_5, .ref r1_6, .ref r1_7, .ref r1_8, .ref r1_9]))] H := hP
  have hD : va_D A [(h0, .inr (9, [.int 0, .ref r0_1, .ref r0_2, .ref r0_3, .ref r0_4, .int 1, .ref r0_6, .ref r0_7, .ref r0_8])), (r0_6, .inr (4, [.int 0, .int 0, .ref r1_2, .ref r1_3, .ref r1_4, .ref r1_5, .ref r1_6, .ref r1_7, .ref r1_8, .ref r1_9]))] := hD
  have hP9 := hP.sub (ws' := [(h0, .inr (9, [.int 0, .ref r0_1, .ref r0_2, .ref r0_3, .ref r0_4, .int 1, .ref r0_6, .ref r0_7, .ref r0_8])), (r0_6, .inr (4, [.int 0, .int 0, .ref r1_2, .ref r1_3, .ref r1_4, .ref r1_5, .ref r1_6, .ref r1_7, .ref r1_8, .ref r1_9]))]) [0, 1] rfl
  have hD9 := hD.sub (ws' := [(h0, .inr (9, [.int 0, .ref r0_1, .ref r0_2, .ref r0_3, .ref r0_4, .int 1, .ref r0_6, .ref r0_7, .ref r0_8])), (r0_6, .inr (4, [.int 0, .int 0, .ref r1_2, .ref r1_3, .ref r1_4, .ref r1_5, .ref r1_6, .ref r1_7, .ref r1_8, .ref r1_9]))]) [0, 1] (by decide) rfl
  have hK9 := hK.sub (tys' := []) [] rfl
  rw [← hQ]
  exact W.vret hx hb hr (fun t ht hW => ⟨⟨((fun k => ([0, 1, 0, 0] : List Int32).getD k 0), (fun k => ([] : List (Nat → Int32)).getD k (fun _ => 0)), (fun k => ([] : List (Nat → Int64)).getD k (fun _ => 0))), rfl, ⟨(show (0 : Int) ≤ (0 : Int32).toInt ∧ (0 : Int32).toInt ≤ 4 by decide +kernel), (show (0 : Int) ≤ (0 : Int32).toInt ∧ (0 : Int32).toInt ≤ 14 by decide +kernel), trivial⟩, by rw [ht]; exact hP9, va_K.moved hW.alike hK9, hD9⟩, hS.F ht⟩) hS.2.2 dX9_clear_26
set_option maxHeartbeats 4000000 in
set_option maxRecDepth 100000 in
theorem zs_X2_earlierGroup (l : Launch) (dC : Nat → ClassId) (dI : Nat → Nat → Nat) (h0 : Nat) (h1 : Nat) (p2 : Int32) (v0_0 : Int32) (v0_1 : Int32) (v0_2 : Int32) (r0_3 : Nat) (r0_4 : Nat) (r0_5 : Nat) (v1_0 : Int32) (v1_1 : Int32) (r1_2 : Nat) (r1_3 : Nat) (r1_4 : Nat) (r1_5 : Nat) (r1_6 : Nat) (r1_7 : Nat) (r1_8 : Nat) (r1_9 : Nat) (k2 : Nat) (f2 : Nat → Int32) (k3 : Nat) (f3 : Nat → Int32) (hq_p2 : (0 : Int) ≤ p2.toInt ∧ p2.toInt ≤ 13) (hq_v0_0 : (0 : Int) ≤ v0_0.toInt ∧ v0_0.toInt ≤ 14) (hq_v0_2 : (0 : Int) ≤ v0_2.toInt ∧ v0_2.toInt ≤ 1) (hq_v1_0 : (0 : Int) ≤ v1_0.toInt ∧ v1_0.toInt ≤ 14) (hf3 : zr f3 (-1) 13) (sz : Nat) : Met l yX2_earlierGroup wsX2_earlierGroup ({ frames := 0, cells := 0, slots := 0, locals := 0 }) (va_Pc [.ref h0, .ref h1, .int p2] (fun U => U.heap.size = sz ∧ va_P (dC, dI) vwCl [(h0, .inr (2, [.int v0_0, .int v0_1, .int v0_2, .ref r0_3, .ref r0_4, .ref r0_5])), (h1, .inr (4, [.int v1_0, .int v1_1, .ref r1_2, .ref r1_3, .ref r1_4, .ref r1_5, .ref r1_6, .ref r1_7, .ref r1_8, .ref r1_9])), (r1_7, .inl (k2, 14, .inl f2)), (r0_3, .inl (k3, 14, .inl f3))] U.heap ∧ va_K (dC, dI) vwCl [(k2, .int), (k3, .int)] U ∧ va_D (fun _ => True) [(h0, .inr (2, [.int v0_0, .int v0_1, .int v0_2, .ref r0_3, .ref r0_4, .ref r0_5])), (h1, .inr (4, [.int v1_0, .int v1_1, .ref r1_2, .ref r1_3, .ref r1_4, .ref r1_5, .ref r1_6, .ref r1_7, .ref r1_8, .ref r1_9])), (r1_7, .inl (k2, 14, .inl f2)), (r0_3, .inl (k3, 14, .inl f3))])) (va_Qi (fun (r : Int32) (u : zV) => ((-1 : Int) ≤ r.toInt ∧ r.toInt ≤ 13) ∧ (r.toInt = -1 ∨ ((0 : Int) ≤ p2.toInt + (-1))) ∧ True) (fun u t => va_P (dC, dI) vwCl [(h0, .inr (2, [.int v0_0, .int v0_1, .int v0_2, .ref r0_3, .ref r0_4, .ref r0_5])), (h1, .inr (4, [.int v1_0, .int v1_1, .ref r1_2, .ref r1_3, .ref r1_4, .ref r1_5, .ref r1_6, .ref r1_7, .ref r1_8, .ref r1_9])), (r1_7, .inl (k2, 14, .inl f2)), (r0_3, .inl (k3, 14, .inl f3))] t.heap ∧ va_K (dC, dI) vwCl [(k2, .int), (k3, .int)] t ∧ va_D (va_A [(h0, .inr (2, [.int v0_0, .int v0_1, .int v0_2, .ref r0_3, .ref r0_4, .ref r0_5])), (h1, .inr (4, [.int v1_0, .int v1_1, .ref r1_2, .ref r1_3, .ref r1_4, .ref r1_5, .ref r1_6, .ref r1_7, .ref r1_8, .ref r1_9])), (r1_7, .inl (k2, 14, .inl f2)), (r0_3, .inl (k3, 14, .inl f3))] sz) [(h0, .inr (2, [.int v0_0, .int v0_1, .int v0_2, .ref r0_3, .ref r0_4, .ref r0_5])), (h1, .inr (4, [.int v1_0, .int v1_1, .ref r1_2, .ref r1_3, .ref r1_4, .ref r1_5, .ref r1_6, .ref r1_7, .ref r1_8, .ref r1_9])), (r1_7, .inl (k2, 14, .inl f2)), (r0_3, .inl (k3, 14, .inl f3))]) (va_A [(h0, .inr (2, [.int v0_0, .int v0_1, .int v0_2, .ref r0_3, .ref r0_4, .ref r0_5])), (h1, .inr (4, [.int v1_0, .int v1_1, .ref r1_2, .ref r1_3, .ref r1_4, .ref r1_5, .ref r1_6, .ref r1_7, .ref r1_8, .ref r1_9])), (r1_7, .inl (k2, 14, .inl f2)), (r0_3, .inl (k3, 14, .inl f3))] sz)) 0 0 (va_A [(h0, .inr (2, [.int v0_0, .int v0_1, .int v0_2, .ref r0_3, .ref r0_4, .ref r0_5])), (h1, .inr (4, [.int v1_0, .int v1_1, .ref r1_2, .ref r1_3, .ref r1_4, .ref r1_5, .ref r1_6, .ref r1_7, .ref r1_8, .ref r1_9])), (r1_7, .inl (k2, 14, .inl f2)), (r0_3, .inl (k3, 14, .inl f3))] sz) := by
  refine Met.ofW (cc := cX2_earlierGroup) (maxL := 4) (ret := (some .int)) (by decide +kernel) rfl ?_
  intro p e s m args below meth c s₁ B hml hv
  obtain ⟨rfl, hsz, hP, hK, hD0⟩ := hv
  have hx := B.exec
  have hb := B.bytes
  have hr := B.returns
  have hts := atoms_spec (ws := wsX2_earlierGroup) B.pre
  have hown : s.vm.findClass RX2 = some m.cls := findClass_of_methodNamed B.named
  have hlocks := B.notSynchronized
  subst hsz
  have hD := hD0.self (sz := s.heap.size)
  generalize hAe : va_A [(h0, .inr (2, [.int v0_0, .int v0_1, .int v0_2, .ref r0_3, .ref r0_4, .ref r0_5])), (h1, .inr (4, [.int v1_0, .int v1_1, .ref r1_2, .ref r1_3, .ref r1_4, .ref r1_5, .ref r1_6, .ref r1_7, .ref r1_8, .ref r1_9])), (r1_7, .inl (k2, 14, .inl f2)), (r0_3, .inl (k3, 14, .inl f3))] s.heap.size = A at hD ⊢
  have hA : ∀ q : Nat, s.heap.size ≤ q → A q := fun q h => by rw [← hAe]; exact Or.inr h
  have hS : va_S A s.heap s.heap [] := va_S.rf
  have hP : va_P (dC, dI) vwCl [(h0, .inr (2, [.int v0_0, .int v0_1, .int v0_2, .ref r0_3, .ref r0_4, .ref r0_5])), (h1, .inr (4, [.int v1_0, .int v1_1, .ref r1_2, .ref r1_3, .ref r1_4, .ref r1_5, .ref r1_6, .ref r1_7, .ref r1_8, .ref r1_9])), (r1_7, .inl (k2, 14, .inl f2)), (r0_3, .inl (k3, 14, .inl f3))] s.heap := hP
  have hl := lv_entry ([.ref h0, .ref h1, .int p2]) (n := 4) (Nat.le_of_ble_eq_true rfl)
  rw [lg_entry_eq]
  generalize (lg_sl ([.ref h0, .ref h1, .int p2]) ++ List.replicate (4 - (lg_sl ([.ref h0, .ref h1, .int p2])).length) Slot.unset).toArray = ls at hl ⊢
  have hl : lv_has ls 4 [(0, .ref h0), (1, .ref h1), (2, .int p2)] := hl
  generalize hQ : MQ below (va_Qi (fun (r : Int32) (u : zV) => ((-1 : Int) ≤ r.toInt ∧ r.toInt ≤ 13) ∧ (r.toInt = -1 ∨ ((0 : Int) ≤ p2.toInt + (-1))) ∧ True) (fun u t => va_P (dC, dI) vwCl [(h0, .inr (2, [.int v0_0, .int v0_1, .int v0_2, .ref r0_3, .ref r0_4, .ref r0_5])), (h1, .inr (4, [.int v1_0, .int v1_1, .ref r1_2, .ref r1_3, .ref r1_4, .ref r1_5, .ref r1_6, .ref r1_7, .ref r1_8, .ref r1_9])), (r1_7, .inl (k2, 14, .inl f2)), (r0_3, .inl (k3, 14, .inl f3))] t.heap ∧ va_K (dC, dI) vwCl [(k2, .int), (k3, .int)] t ∧ va_D A [(h0, .inr (2, [.int v0_0, .int v0_1, .int v0_2, .ref r0_3, .ref r0_4, .ref r0_5])), (h1, .inr (4, [.int v1_0, .int v1_1, .ref r1_2, .ref r1_3, .ref r1_4, .ref r1_5, .ref r1_6, .ref r1_7, .ref r1_8, .ref r1_9])), (r1_7, .inl (k2, 14, .inl f2)), (r0_3, .inl (k3, 14, .inl f3))]) A) ([.ref h0, .ref h1, .int p2] : List Value).toArray s 0 0 A = Q
  refine lv_iconst (v := 0) hx hb dX2_earlierGroup_0 (by decide +kernel) ?_
  refine lv_istore_n (lv' := [(3, .int 0), (0, .ref h0), (1, .ref h1), (2, .int p2)]) hx hb dX2_earlierGroup_1 rfl hl (by decide) rfl (fun ls hl => ?_)
  have lp2 : ∀ (n : Nat) (y2_3 : Int32) (H : Heap) (locs : List Loc) (ls : Array Slot), (0 : Int) ≤ y2_3.toInt + (0) → (y2_3.toInt : Int) ≤ 0 + (13) → (y2_3.toInt : Int) ≤ p2.toInt + (0) → 14 - y2_3.toInt < n → va_P (dC, dI) vwCl [(h0, .inr (2, [.int v0_0, .int v0_1, .int v0_2, .ref r0_3, .ref r0_4, .ref r0_5])), (h1, .inr (4, [.int v1_0, .int v1_1, .ref r1_2, .ref r1_3, .ref r1_4, .ref r1_5, .ref r1_6, .ref r1_7, .ref r1_8, .ref r1_9])), (r1_7, .inl (k2, 14, .inl f2)), (r0_3, .inl (k3, 14, .inl f3))] H → va_D A [(h0, .inr (2, [.int v0_0, .int v0_1, .int v0_2, .ref r0_3, .ref r0_4, .ref r0_5])), (h1, .inr (4, [.int v1_0, .int v1_1, .ref r1_2, .ref r1_3, .ref r1_4, .ref r1_5, .ref r1_6, .ref r1_7, .ref r1_8, .ref r1_9])), (r1_7, .inl (k2, 14, .inl f2)), (r0_3, .inl (k3, 14, .inl f3))] → va_S A s.heap H locs → lv_has ls 4 [(3, .int y2_3), (0, .ref h0), (1, .ref h1), (2, .int p2)] → W p l e (headSpec wsX2_earlierGroup ({ frames := 0, cells := 0, slots := 0, locals := 0 })).room s m ([.ref h0, .ref h1, .int p2] : List Value).toArray below meth c H locs 0 0 Q (F0 m 2 ls []) := by
    intro n
    induction n with
    | zero =>
      intro y2_3 H locs ls hz2_0 hz2_1 hz2_2  hmeas hP hD hS hl
      exfalso; omega
    | succ n ih2 =>
      intro y2_3 H locs ls hz2_0 hz2_1 hz2_2  hmeas hP hD hS hl
      refine lv_iload_n hx hb dX2_earlierGroup_2 rfl (lv_at hl 0 rfl) ?_
      refine lv_iload_n hx hb dX2_earlierGroup_3 rfl (lv_at hl 3 rfl) ?_
      refine lv_icmp_ge (tgt := 35) hx hb dX2_earlierGroup_4 (by decide) (fun c_1 => ?_) (fun c_1 => ?_)
      · have oc_1 := zk_le rfl rfl c_1
        refine lv_iconst (v := (-1)) hx hb dX2_earlierGroup_35 (by decide +kernel) ?_
        have hP9 := hP.sub (ws' := [(h0, .inr (2, [.int v0_0, .int v0_1, .int v0_2, .ref r0_3, .ref r0_4, .ref r0_5])), (h1, .inr (4, [.int v1_0, .int v1_1, .ref r1_2, .ref r1_3, .ref r1_4, .ref r1_5, .ref r1_6, .ref r1_7, .ref r1_8, .ref r1_9])), (r1_7, .inl (k2, 14, .inl f2)), (r0_3, .inl (k3, 14, .inl f3))]) [0, 1, 2, 3] rfl
        have hD9 := hD.sub (ws' := [(h0, .inr (2, [.int v0_0, .int v0_1, .int v0_2, .ref r0_3, .ref r0_4, .ref r0_5])), (h1, .inr (4, [.int v1_0, .int v1_1, .ref r1_2, .ref r1_3, .ref r1_4, .ref r1_5, .ref r1_6, .ref r1_7, .ref r1_8, .ref r1_9])), (r1_7, .inl (k2, 14, .inl f2)), (r0_3, .inl (k3, 14, .inl f3))]) [0, 1, 2, 3] (by decide) rfl
        have hK9 := hK.sub (tys' := [(k2, .int), (k3, .int)]) [0, 1] rfl
        rw [← hQ]
        exact W.iret (v := (-1)) hx hb hr (fun t ht hW => ⟨⟨(-1), ((fun k => ([] : List Int32).getD k 0), (fun k => ([] : List (Nat → Int32)).getD k (fun _ => 0)), (fun k => ([] : List (Nat → Int64)).getD k (fun _ => 0))), rfl, ⟨(show (-1 : Int) ≤ ((-1) : Int32).toInt ∧ ((-1) : Int32).toInt ≤ 13 by decide +kernel), (show (((-1) : Int32).toInt = -1 ∨ ((0 : Int) ≤ p2.toInt + (-1))) by exact Or.inl (by decide +kernel)), trivial⟩, by rw [ht]; exact hP9, va_K.moved hW.alike hK9, hD9⟩, hS.F ht⟩) hS.2.2 dX2_earlierGroup_36
      have oc_1 := zk_nle rfl rfl c_1
      refine lv_aload_n hx hb dX2_earlierGroup_7 rfl (lv_at hl 2 rfl) ?_
      refine va_get (D := (dC, dI)) (ci := 4) (v := .ref r1_7) (C := RX4) (T := TX4) (N := 10) hx hb hts zn_X2_earlierGroup_X4 hown hK hP 1 rfl rfl 7 (by decide) (hts (.fieldLink RX2 44 "ShortEnough$Numbers" "joined" "[I") zw_X2_earlierGroup_121) (fun _ h9 => h9) rfl dX2_earlierGroup_8 ?_
      refine lv_iload_n hx hb dX2_earlierGroup_11 rfl (lv_at hl 0 rfl) ?_
      refine va_iald hx hb hK hP 2 0 rfl rfl (vp_in_iff.mpr ⟨by omega, by omega⟩) dX2_earlierGroup_12 ?_
      refine lv_topi (fun x_2 ex_2 => ?_)
      refine lv_aload_n hx hb dX2_earlierGroup_13 rfl (lv_at hl 2 rfl) ?_
      refine va_get (D := (dC, dI)) (ci := 4) (v := .ref r1_7) (C := RX4) (T := TX4) (N := 10) hx hb hts zn_X2_earlierGroup_X4 hown hK hP 1 rfl rfl 7 (by decide) (hts (.fieldLink RX2 44 "ShortEnough$Numbers" "joined" "[I") zw_X2_earlierGroup_121) (fun _ h9 => h9) rfl dX2_earlierGroup_14 ?_
      refine lv_iload_n hx hb dX2_earlierGroup_17 rfl (lv_at hl 3 rfl) ?_
      refine va_iald hx hb hK hP 2 0 rfl rfl (vp_in_iff.mpr ⟨by omega, by omega⟩) dX2_earlierGroup_18 ?_
      refine lv_topi (fun x_3 ex_3 => ?_)
      refine lv_icmp_ne (tgt := 29) hx hb dX2_earlierGroup_19 (by decide) (fun c_4 => ?_) (fun c_4 => ?_)
      · have oc_4 := zk_ne rfl rfl c_4
        obtain ⟨x_5, ex_5⟩ : ∃ y : Int32, y = y2_3 + 1 := ⟨_, rfl⟩
        refine lv_iinc (v := x_5) (lv' := [(3, .int x_5), (0, .ref h0), (1, .ref h1), (2, .int p2)]) hx hb dX2_earlierGroup_29 hl (k := 0) rfl (by rw [ex_5]; rfl) (by decide) rfl (fun ls hl => ?_)
        have hx_5 := zo_add ex_5 rfl (by decide +kernel : (1 : Int32).toInt = 1) (by omega)
        refine lv_goto (tgt := 2) hx hb dX2_earlierGroup_32 (by decide) ?_
        exact ih2  x_5 H locs ls (by omega) (by omega) (by omega)  (by omega) hP hD hS (lv_sub hl [0, 1, 2, 3] rfl)
      have oc_4 := zk_eq rfl rfl c_4
      refine lv_aload_n hx hb dX2_earlierGroup_22 rfl (lv_at hl 1 rfl) ?_
      refine va_get (D := (dC, dI)) (ci := 2) (v := .ref r0_3) (C := RX2) (T := TX2) (N := 6) hx hb hts zn_X2_earlierGroup_X2 hown hK hP 0 rfl rfl 3 (by decide) (hts (.fieldLink RX2 9 "ShortEnough$Groups" "of" "[I") zw_X2_earlierGroup_123) (fun _ h9 => h9) rfl dX2_earlierGroup_23 ?_
      refine lv_iload_n hx hb dX2_earlierGroup_26 rfl (lv_at hl 0 rfl) ?_
      refine va_iald hx hb hK hP 3 1 rfl rfl (vp_in_iff.mpr ⟨by omega, by omega⟩) dX2_earlierGroup_27 ?_
      refine lv_topi (fun x_6 ex_6 => ?_)
      have hx_6 := zr_at hf3 ex_6
      have hP9 := hP.sub (ws' := [(h0, .inr (2, [.int v0_0, .int v0_1, .int v0_2, .ref r0_3, .ref r0_4, .ref r0_5])), (h1, .inr (4, [.int v1_0, .int v1_1, .ref r1_2, .ref r1_3, .ref r1_4, .ref r1_5, .ref r1_6, .ref r1_7, .ref r1_8, .ref r1_9])), (r1_7, .inl (k2, 14, .inl f2)), (r0_3, .inl (k3, 14, .inl f3))]) [0, 1, 2, 3] rfl
      have hD9 := hD.sub (ws' := [(h0, .inr (2, [.int v0_0, .int v0_1, .int v0_2, .ref r0_3, .ref r0_4, .ref r0_5])), (h1, .inr (4, [.int v1_0, .int v1_1, .ref r1_2, .ref r1_3, .ref r1_4, .ref r1_5, .ref r1_6, .ref r1_7, .ref r1_8, .ref r1_9])), (r1_7, .inl (k2, 14, .inl f2)), (r0_3, .inl (k3, 14, .inl f3))]) [0, 1, 2, 3] (by decide) rfl
      have hK9 := hK.sub (tys' := [(k2, .int), (k3, .int)]) [0, 1] rfl
      rw [← hQ]
      exact W.iret (v := x_6) hx hb hr (fun t ht hW => ⟨⟨x_6, ((fun k => ([] : List Int32).getD k 0), (fun k => ([] : List (Nat → Int32)).getD k (fun _ => 0)), (fun k => ([] : List (Nat → Int64)).getD k (fun _ => 0))), rfl, ⟨(show (-1 : Int) ≤ (x_6 : Int32).toInt ∧ (x_6 : Int32).toInt ≤ 13 by omega), (show ((x_6 : Int32).toInt = -1 ∨ ((0 : Int) ≤ p2.toInt + (-1))) by omega), trivial⟩, by rw [ht]; exact hP9, va_K.moved hW.alike hK9, hD9⟩, hS.F ht⟩) hS.2.2 dX2_earlierGroup_28
  have kk0 : (0 : Int32).toInt = 0 := (by decide +kernel)
  exact lp2 ((14 - (0 : Int32).toInt).toNat + 1) 0 s.heap [] ls (by omega) (by omega) (by omega)  (by omega) hP hD hS (lv_sub hl [0, 1, 2, 3] rfl)
set_option maxHeartbeats 4000000 in
set_option maxRecDepth 100000 in
theorem zs_X2_fix (l : Launch) (dC : Nat → ClassId) (dI : Nat → Nat → Nat) (h0 : Nat) (p1 : Int32) (p2 : Int32) (v0_0 : Int32) (v0_1 : Int32) (v0_2 : Int32) (r0_3 : Nat) (r0_4 : Nat) (r0_5 : Nat) (k1 : Nat) (f1 : Nat → Int32) (hq_p1 : (0 : Int) ≤ p1.toInt ∧ p1.toInt ≤ 13) (hq_v0_0 : (0 : Int) ≤ v0_0.toInt ∧ v0_0.toInt ≤ 14) (hq_v0_2 : (0 : Int) ≤ v0_2.toInt ∧ v0_2.toInt ≤ 1) (sz : Nat) : Met l yX2_fix wsX2_fix ({ frames := 0, cells := 0, slots := 0, locals := 0 }) (va_Pc [.ref h0, .int p1, .int p2] (fun U => U.heap.size = sz ∧ va_P (dC, dI) vwCl [(h0, .inr (2, [.int v0_0, .int v0_1, .int v0_2, .ref r0_3, .ref r0_4, .ref r0_5])), (r0_4, .inl (k1, 14, .inl f1))] U.heap ∧ va_K (dC, dI) vwCl [(k1, .int)] U ∧ va_D (fun _ => True) [(h0, .inr (2, [.int v0_0, .int v0_1, .int v0_2, .ref r0_3, .ref r0_4, .ref r0_5])), (r0_4, .inl (k1, 14, .inl f1))])) (va_Qv (fun (u : zV) => ((0 : Int) ≤ (u.1 0).toInt ∧ (u.1 0).toInt ≤ 1) ∧ True) (fun u t => va_P (dC, dI) vwCl [(h0, .inr (2, [.int v0_0, .int v0_1, .int (u.1 0), .ref r0_3, .ref r0_4, .ref r0_5])), (r0_4, .inl (k1, 14, .inl (u.2.1 0)))] t.heap ∧ va_K (dC, dI) vwCl [(k1, .int)] t ∧ va_D (va_A [(h0, .inr (2, [.int v0_0, .int v0_1, .int v0_2, .ref r0_3, .ref r0_4, .ref r0_5])), (r0_4, .inl (k1, 14, .inl f1))] sz) [(h0, .inr (2, [.int v0_0, .int v0_1, .int (u.1 0), .ref r0_3, .ref r0_4, .ref r0_5])), (r0_4, .inl (k1, 14, .inl (u.2.1 0)))]) (va_A [(h0, .inr (2, [.int v0_0, .int v0_1, .int v0_2, .ref r0_3, .ref r0_4, .ref r0_5])), (r0_4, .inl (k1, 14, .inl f1))] sz)) 0 0 (va_A [(h0, .inr (2, [.int v0_0, .int v0_1, .int v0_2, .ref r0_3, .ref r0_4, .ref r0_5])), (r0_4, .inl (k1, 14, .inl f1))] sz) := by
  refine Met.ofW (cc := cX2_fix) (maxL := 3) (ret := none) (by decide +kernel) rfl ?_
  intro p e s m args below meth c s₁ B hml hv
  obtain ⟨rfl, hsz, hP, hK, hD0⟩ := hv
  have hx := B.exec
  have hb := B.bytes
  have hr := B.returns
  have hts := atoms_spec (ws := wsX2_fix) B.pre
  have hown : s.vm.findClass RX2 = some m.cls := findClass_of_methodNamed B.named
  have hlocks := B.notSynchronized
  subst hsz
  have hD := hD0.self (sz := s.heap.size)
  generalize hAe : va_A [(h0, .inr (2, [.int v0_0, .int v0_1, .int v0_2, .ref r0_3, .ref r0_4, .ref r0_5])), (r0_4, .inl (k1, 14, .inl f1))] s.heap.size = A at hD ⊢
  have hA : ∀ q : Nat, s.heap.size ≤ q → A q := fun q h => by rw [← hAe]; exact Or.inr h
  have hS : va_S A s.heap s.heap [] := va_S.rf
  have hP : va_P (dC, dI) vwCl [(h0, .inr (2, [.int v0_0, .int v0_1, .int v0_2, .ref r0_3, .ref r0_4, .ref r0_5])), (r0_4, .inl (k1, 14, .inl f1))] s.heap := hP
  have hl := lv_entry ([.ref h0, .int p1, .int p2]) (n := 3) (Nat.le_of_ble_eq_true rfl)
  rw [lg_entry_eq]
  generalize (lg_sl ([.ref h0, .int p1, .int p2]) ++ List.replicate (3 - (lg_sl ([.ref h0, .int p1, .int p2])).length) Slot.unset).toArray = ls at hl ⊢
  have hl : lv_has ls 3 [(0, .ref h0), (1, .int p1), (2, .int p2)] := hl
  generalize hQ : MQ below (va_Qv (fun (u : zV) => ((0 : Int) ≤ (u.1 0).toInt ∧ (u.1 0).toInt ≤ 1) ∧ True) (fun u t => va_P (dC, dI) vwCl [(h0, .inr (2, [.int v0_0, .int v0_1, .int (u.1 0), .ref r0_3, .ref r0_4, .ref r0_5])), (r0_4, .inl (k1, 14, .inl (u.2.1 0)))] t.heap ∧ va_K (dC, dI) vwCl [(k1, .int)] t ∧ va_D A [(h0, .inr (2, [.int v0_0, .int v0_1, .int (u.1 0), .ref r0_3, .ref r0_4, .ref r0_5])), (r0_4, .inl (k1, 14, .inl (u.2.1 0)))]) A) ([.ref h0, .int p1, .int p2] : List Value).toArray s 0 0 A = Q
  refine lv_iload_n hx hb dX2_fix_0 rfl (lv_at hl 2 rfl) ?_
  refine lv_iconst (v := (-1)) hx hb dX2_fix_1 (by decide +kernel) ?_
  refine lv_icmp_eq (tgt := 15) hx hb dX2_fix_2 (by decide) (fun c_1 => ?_) (fun c_1 => ?_)
  · have oc_1 := zk_eq rfl (by decide +kernel : ((-1) : Int32).toInt = -1) c_1
    have hP9 := hP.sub (ws' := [(h0, .inr (2, [.int v0_0, .int v0_1, .int v0_2, .ref r0_3, .ref r0_4, .ref r0_5])), (r0_4, .inl (k1, 14, .inl f1))]) [0, 1] rfl
    have hD9 := hD.sub (ws' := [(h0, .inr (2, [.int v0_0, .int v0_1, .int v0_2, .ref r0_3, .ref r0_4, .ref r0_5])), (r0_4, .inl (k1, 14, .inl f1))]) [0, 1] (by decide) rfl
    have hK9 := hK.sub (tys' := [(k1, .int)]) [0] rfl
    rw [← hQ]
    exact W.vret hx hb hr (fun t ht hW => ⟨⟨((fun k => ([v0_2] : List Int32).getD k 0), (fun k => ([f1] : List (Nat → Int32)).getD k (fun _ => 0)), (fun k => ([] : List (Nat → Int64)).getD k (fun _ => 0))), rfl, ⟨(show (0 : Int) ≤ (v0_2 : Int32).toInt ∧ (v0_2 : Int32).toInt ≤ 1 by omega), trivial⟩, by rw [ht]; exact hP9, va_K.moved hW.alike hK9, hD9⟩, hS.F ht⟩) hS.2.2 dX2_fix_15
  have oc_1 := zk_ne rfl (by decide +kernel : ((-1) : Int32).toInt = -1) c_1
  refine lv_aload_n hx hb dX2_fix_5 rfl (lv_at hl 0 rfl) ?_
  refine va_get (D := (dC, dI)) (ci := 2) (v := .ref r0_4) (C := RX2) (T := TX2) (N := 6) hx hb hts zn_X2_fix_X2 hown hK hP 0 rfl rfl 4 (by decide) (hts (.fieldLink RX2 15 "ShortEnough$Groups" "fixedAs" "[I") zw_X2_fix_125) (fun _ h9 => h9) rfl dX2_fix_6 ?_
  refine lv_iload_n hx hb dX2_fix_9 rfl (lv_at hl 1 rfl) ?_
  refine va_iald hx hb hK hP 1 0 rfl rfl (vp_in_iff.mpr ⟨by omega, by omega⟩) dX2_fix_10 ?_
  refine lv_topi (fun x_2 ex_2 => ?_)
  refine lv_iload_n hx hb dX2_fix_11 rfl (lv_at hl 2 rfl) ?_
  refine lv_icmp_ne (tgt := 16) hx hb dX2_fix_12 (by decide) (fun c_3 => ?_) (fun c_3 => ?_)
  · have oc_3 := zk_ne rfl rfl c_3
    refine lv_aload_n hx hb dX2_fix_16 rfl (lv_at hl 0 rfl) ?_
    refine lv_aload_n hx hb dX2_fix_17 rfl (lv_at hl 0 rfl) ?_
    refine va_get (D := (dC, dI)) (ci := 2) (v := .int v0_2) (C := RX2) (T := TX2) (N := 6) hx hb hts zn_X2_fix_X2 hown hK hP 0 rfl rfl 2 (by decide) (hts (.fieldLink RX2 25 "ShortEnough$Groups" "clash" "Z") zw_X2_fix_126) (fun _ h9 => h9) rfl dX2_fix_18 ?_
    refine lv_if_ne (tgt := 34) hx hb dX2_fix_21 (by decide) (fun c_4 => ?_) (fun c_4 => ?_)
    · have oc_4 := zk_ne rfl (by decide +kernel : (0 : Int32).toInt = 0) c_4
      refine lv_iconst (v := 1) hx hb dX2_fix_34 (by decide +kernel) ?_
      refine lv_goto (tgt := 39) hx hb dX2_fix_35 (by decide) ?_
      refine va_put (D := (dC, dI)) (ci := 2) (v := .int 1) (ty := .boolean) (C := RX2) (T := TX2) (N := 6) hx hb hts zn_X2_fix_X2 tyX2 tyX2_ok nmX2 hown hK hP hD hS 0 rfl rfl 2 (by decide) (hts (.fieldLink RX2 25 "ShortEnough$Groups" "clash" "Z") zw_X2_fix_126) (fun _ h9 => h9) rfl (by decide +kernel) rfl rfl (Nat.le_of_ble_eq_true rfl) dX2_fix_39 (fun H locs hP hD hS => ?_)
      have hP : va_P (dC, dI) vwCl [(h0, .inr (2, [.int v0_0, .int v0_1, .int 1, .ref r0_3, .ref r0_4, .ref r0_5])), (r0_4, .inl (k1, 14, .inl f1))] H := hP
      have hD : va_D A [(h0, .inr (2, [.int v0_0, .int v0_1, .int 1, .ref r0_3, .ref r0_4, .ref r0_5])), (r0_4, .inl (k1, 14, .inl f1))] := hD
      refine lv_aload_n hx hb dX2_fix_42 rfl (lv_at hl 0 rfl) ?_
      refine va_get (D := (dC, dI)) (ci := 2) (v := .ref r0_4) (C := RX2) (T := TX2) (N := 6) hx hb hts zn_X2_fix_X2 hown hK hP 0 rfl rfl 4 (by decide) (hts (.fieldLink RX2 15 "ShortEnough$Groups" "fixedAs" "[I") zw_X2_fix_125) (fun _ h9 => h9) rfl dX2_fix_43 ?_
      refine lv_iload_n hx hb dX2_fix_46 rfl (lv_at hl 1 rfl) ?_
      refine lv_aload_n hx hb dX2_fix_47 rfl (lv_at hl 0 rfl) ?_
      refine va_get (D := (dC, dI)) (ci := 2) (v := .ref r0_4) (C := RX2) (T := TX2) (N := 6) hx hb hts zn_X2_fix_X2 hown hK hP 0 rfl rfl 4 (by decide) (hts (.fieldLink RX2 15 "ShortEnough$Groups" "fixedAs" "[I") zw_X2_fix_125) (fun _ h9 => h9) rfl dX2_fix_48 ?_
      refine lv_iload_n hx hb dX2_fix_51 rfl (lv_at hl 1 rfl) ?_
      refine va_iald hx hb hK hP 1 0 rfl rfl (vp_in_iff.mpr ⟨by omega, by omega⟩) dX2_fix_52 ?_
      refine W.eq (g2 := F0 m 53 ls [.int x_2, .int p1, .ref r0_4]) (by rw [← ex_2]) ?_
      refine lv_iconst (v := (-1)) hx hb dX2_fix_53 (by decide +kernel) ?_
      refine lv_icmp_ne (tgt := 61) hx hb dX2_fix_54 (by decide) (fun c_5 => ?_) (fun c_5 => ?_)
      · have oc_5 := zk_ne rfl (by decide +kernel : ((-1) : Int32).toInt = -1) c_5
        refine lv_bipush (v := (-2)) hx hb dX2_fix_61 (by decide +kernel) ?_
        refine va_iast hx hb hK hP hD hS 1 0 rfl rfl (vp_in_iff.mpr ⟨by omega, by omega⟩) dX2_fix_63 (fun H locs hP hD hS => ?_)
        obtain ⟨f_6, ef_6⟩ : ∃ g : Nat → Int32, g = upd f1 (p1 : Int32).toNatClampNeg (-2) := ⟨_, rfl⟩
        have hP : va_P (dC, dI) vwCl [(h0, .inr (2, [.int v0_0, .int v0_1, .int 1, .ref r0_3, .ref r0_4, .ref r0_5])), (r0_4, .inl (k1, 14, .inl f_6))] H := by rw [ef_6]; exact hP
        have hD : va_D A [(h0, .inr (2, [.int v0_0, .int v0_1, .int 1, .ref r0_3, .ref r0_4, .ref r0_5])), (r0_4, .inl (k1, 14, .inl f_6))] := by rw [ef_6]; exact hD
        have hP9 := hP.sub (ws' := [(h0, .inr (2, [.int v0_0, .int v0_1, .int 1, .ref r0_3, .ref r0_4, .ref r0_5])), (r0_4, .inl (k1, 14, .inl f_6))]) [0, 1] rfl
        have hD9 := hD.sub (ws' := [(h0, .inr (2, [.int v0_0, .int v0_1, .int 1, .ref r0_3, .ref r0_4, .ref r0_5])), (r0_4, .inl (k1, 14, .inl f_6))]) [0, 1] (by decide) rfl
        have hK9 := hK.sub (tys' := [(k1, .int)]) [0] rfl
        rw [← hQ]
        exact W.vret hx hb hr (fun t ht hW => ⟨⟨((fun k => ([1] : List Int32).getD k 0), (fun k => ([f_6] : List (Nat → Int32)).getD k (fun _ => 0)), (fun k => ([] : List (Nat → Int64)).getD k (fun _ => 0))), rfl, ⟨(show (0 : Int) ≤ (1 : Int32).toInt ∧ (1 : Int32).toInt ≤ 1 by decide +kernel), trivial⟩, by rw [ht]; exact hP9, va_K.moved hW.alike hK9, hD9⟩, hS.F ht⟩) hS.2.2 dX2_fix_64
      have oc_5 := zk_eq rfl (by decide +kernel : ((-1) : Int32).toInt = -1) c_5
      refine lv_iload_n hx hb dX2_fix_57 rfl (lv_at hl 2 rfl) ?_
      refine lv_goto (tgt := 63) hx hb dX2_fix_58 (by decide) ?_
      refine va_iast hx hb hK hP hD hS 1 0 rfl rfl (vp_in_iff.mpr ⟨by omega, by omega⟩) dX2_fix_63 (fun H locs hP hD hS => ?_)
      obtain ⟨f_7, ef_7⟩ : ∃ g : Nat → Int32, g = upd f1 (p1 : Int32).toNatClampNeg p2 := ⟨_, rfl⟩
      have hP : va_P (dC, dI) vwCl [(h0, .inr (2, [.int v0_0, .int v0_1, .int 1, .ref r0_3, .ref r0_4, .ref r0_5])), (r0_4, .inl (k1, 14, .inl f_7))] H := by rw [ef_7]; exact hP
      have hD : va_D A [(h0, .inr (2, [.int v0_0, .int v0_1, .int 1, .ref r0_3, .ref r0_4, .ref r0_5])), (r0_4, .inl (k1, 14, .inl f_7))] := by rw [ef_7]; exact hD
      have hP9 := hP.sub (ws' := [(h0, .inr (2, [.int v0_0, .int v0_1, .int 1, .ref r0_3, .ref r0_4, .ref r0_5])), (r0_4, .inl (k1, 14, .inl f_7))]) [0, 1] rfl
      have hD9 := hD.sub (ws' := [(h0, .inr (2, [.int v0_0, .int v0_1, .int 1, .ref r0_3, .ref r0_4, .ref r0_5])), (r0_4, .inl (k1, 14, .inl f_7))]) [0, 1] (by decide) rfl
      have hK9 := hK.sub (tys' := [(k1, .int)]) [0] rfl
      rw [← hQ]
      exact W.vret hx hb hr (fun t ht hW => ⟨⟨((fun k => ([1] : List Int32).getD k 0), (fun k => ([f_7] : List (Nat → Int32)).getD k (fun _ => 0)), (fun k => ([] : List (Nat → Int64)).getD k (fun _ => 0))), rfl, ⟨(show (0 : Int) ≤ (1 : Int32).toInt ∧ (1 : Int32).toInt ≤ 1 by decide +kernel), trivial⟩, by rw [ht]; exact hP9, va_K.moved hW.alike hK9, hD9⟩, hS.F ht⟩) hS.2.2 dX2_fix_64
    have oc_4 := zk_eq rfl (by decide +kernel : (0 : Int32).toInt = 0) c_4
    refine lv_aload_n hx hb dX2_fix_24 rfl (lv_at hl 0 rfl) ?_
    refine va_get (D := (dC, dI)) (ci := 2) (v := .ref r0_4) (C := RX2) (T := TX2) (N := 6) hx hb hts zn_X2_fix_X2 hown hK hP 0 rfl rfl 4 (by decide) (hts (.fieldLink RX2 15 "ShortEnough$Groups" "fixedAs" "[I") zw_X2_fix_125) (fun _ h9 => h9) rfl dX2_fix_25 ?_
    refine lv_iload_n hx hb dX2_fix_28 rfl (lv_at hl 1 rfl) ?_
    refine va_iald hx hb hK hP 1 0 rfl rfl (vp_in_iff.mpr ⟨by omega, by omega⟩) dX2_fix_29 ?_
    refine W.eq (g2 := F0 m 30 ls [.int x_2, .ref h0]) (by rw [← ex_2]) ?_
    refine lv_iconst (v := (-1)) hx hb dX2_fix_30 (by decide +kernel) ?_
    refine lv_icmp_eq (tgt := 38) hx hb dX2_fix_31 (by decide) (fun c_8 => ?_) (fun c_8 => ?_)
    · have oc_8 := zk_eq rfl (by decide +kernel : ((-1) : Int32).toInt = -1) c_8
      refine lv_iconst (v := 0) hx hb dX2_fix_38 (by decide +kernel) ?_
      refine va_put (D := (dC, dI)) (ci := 2) (v := .int 0) (ty := .boolean) (C := RX2) (T := TX2) (N := 6) hx hb hts zn_X2_fix_X2 tyX2 tyX2_ok nmX2 hown hK hP hD hS 0 rfl rfl 2 (by decide) (hts (.fieldLink RX2 25 "ShortEnough$Groups" "clash" "Z") zw_X2_fix_126) (fun _ h9 => h9) rfl (by decide +kernel) rfl rfl (Nat.le_of_ble_eq_true rfl) dX2_fix_39 (fun H locs hP hD hS => ?_)
      have hP : va_P (dC, dI) vwCl [(h0, .inr (2, [.int v0_0, .int v0_1, .int 0, .ref r0_3, .ref r0_4, .ref r0_5])), (r0_4, .inl (k1, 14, .inl f1))] H := hP
      have hD : va_D A [(h0, .inr (2, [.int v0_0, .int v0_1, .int 0, .ref r0_3, .ref r0_4, .ref r0_5])), (r0_4, .inl (k1, 14, .inl f1))] := hD
      refine lv_aload_n hx hb dX2_fix_42 rfl (lv_at hl 0 rfl) ?_
      refine va_get (D := (dC, dI)) (ci := 2) (v := .ref r0_4) (C := RX2) (T := TX2) (N := 6) hx hb hts zn_X2_fix_X2 hown hK hP 0 rfl rfl 4 (by decide) (hts (.fieldLink RX2 15 "ShortEnough$Groups" "fixedAs" "[I") zw_X2_fix_125) (fun _ h9 => h9) rfl dX2_fix_43 ?_
      refine lv_iload_n hx hb dX2_fix_46 rfl (lv_at hl 1 rfl) ?_
      refine lv_aload_n hx hb dX2_fix_47 rfl (lv_at hl 0 rfl) ?_
      refine va_get (D := (dC, dI)) (ci := 2) (v := .ref r0_4) (C := RX2) (T := TX2) (N := 6) hx hb hts zn_X2_fix_X2 hown hK hP 0 rfl rfl 4 (by decide) (hts (.fieldLink RX2 15 "ShortEnough$Groups" "fixedAs" "[I") zw_X2_fix_125) (fun _ h9 => h9) rfl dX2_fix_48 ?_
      refine lv_iload_n hx hb dX2_fix_51 rfl (lv_at hl 1 rfl) ?_
      refine va_iald hx hb hK hP 1 0 rfl rfl (vp_in_iff.mpr ⟨by omega, by omega⟩) dX2_fix_52 ?_
      refine W.eq (g2 := F0 m 53 ls [.int x_2, .int p1, .ref r0_4]) (by rw [← ex_2]) ?_
      refine lv_iconst (v := (-1)) hx hb dX2_fix_53 (by decide +kernel) ?_
      refine lv_icmp_ne (tgt := 61) hx hb dX2_fix_54 (by decide) (fun c_9 => by exfalso; have oc_9 := zk_ne rfl (by decide +kernel : ((-1) : Int32).toInt = -1) c_9; omega) (fun c_9 => ?_)
      have oc_9 := zk_eq rfl (by decide +kernel : ((-1) : Int32).toInt = -1) c_9
      refine lv_iload_n hx hb dX2_fix_57 rfl (lv_at hl 2 rfl) ?_
      refine lv_goto (tgt := 63) hx hb dX2_fix_58 (by decide) ?_
      refine va_iast hx hb hK hP hD hS 1 0 rfl rfl (vp_in_iff.mpr ⟨by omega, by omega⟩) dX2_fix_63 (fun H locs hP hD hS => ?_)
      obtain ⟨f_10, ef_10⟩ : ∃ g : Nat → Int32, g = upd f1 (p1 : Int32).toNatClampNeg p2 := ⟨_, rfl⟩
      have hP : va_P (dC, dI) vwCl [(h0, .inr (2, [.int v0_0, .int v0_1, .int 0, .ref r0_3, .ref r0_4, .ref r0_5])), (r0_4, .inl (k1, 14, .inl f_10))] H := by rw [ef_10]; exact hP
      have hD : va_D A [(h0, .inr (2, [.int v0_0, .int v0_1, .int 0, .ref r0_3, .ref r0_4, .ref r0_5])), (r0_4, .inl (k1, 14, .inl f_10))] := by rw [ef_10]; exact hD
      have hP9 := hP.sub (ws' := [(h0, .inr (2, [.int v0_0, .int v0_1, .int 0, .ref r0_3, .ref r0_4, .ref r0_5])), (r0_4, .inl (k1, 14, .inl f_10))]) [0, 1] rfl
      have hD9 := hD.sub (ws' := [(h0, .inr (2, [.int v0_0, .int v0_1, .int 0, .ref r0_3, .ref r0_4, .ref r0_5])), (r0_4, .inl (k1, 14, .inl f_10))]) [0, 1] (by decide) rfl
      have hK9 := hK.sub (tys' := [(k1, .int)]) [0] rfl
      rw [← hQ]
      exact W.vret hx hb hr (fun t ht hW => ⟨⟨((fun k => ([0] : List Int32).getD k 0), (fun k => ([f_10] : List (Nat → Int32)).getD k (fun _ => 0)), (fun k => ([] : List (Nat → Int64)).getD k (fun _ => 0))), rfl, ⟨(show (0 : Int) ≤ (0 : Int32).toInt ∧ (0 : Int32).toInt ≤ 1 by decide +kernel), trivial⟩, by rw [ht]; exact hP9, va_K.moved hW.alike hK9, hD9⟩, hS.F ht⟩) hS.2.2 dX2_fix_64
    have oc_8 := zk_ne rfl (by decide +kernel : ((-1) : Int32).toInt = -1) c_8
    refine lv_iconst (v := 1) hx hb dX2_fix_34 (by decide +kernel) ?_
    refine lv_goto (tgt := 39) hx hb dX2_fix_35 (by decide) ?_
    refine va_put (D := (dC, dI)) (ci := 2) (v := .int 1) (ty := .boolean) (C := RX2) (T := TX2) (N := 6) hx hb hts zn_X2_fix_X2 tyX2 tyX2_ok nmX2 hown hK hP hD hS 0 rfl rfl 2 (by decide) (hts (.fieldLink RX2 25 "ShortEnough$Groups" "clash" "Z") zw_X2_fix_126) (fun _ h9 => h9) rfl (by decide +kernel) rfl rfl (Nat.le_of_ble_eq_true rfl) dX2_fix_39 (fun H locs hP hD hS => ?_)
    have hP : va_P (dC, dI) vwCl [(h0, .inr (2, [.int v0_0, .int v0_1, .int 1, .ref r0_3, .ref r0_4, .ref r0_5])), (r0_4, .inl (k1, 14, .inl f1))] H := hP
    have hD : va_D A [(h0, .inr (2, [.int v0_0, .int v0_1, .int 1, .ref r0_3, .ref r0_4, .ref r0_5])), (r0_4, .inl (k1, 14, .inl f1))] := hD
    refine lv_aload_n hx hb dX2_fix_42 rfl (lv_at hl 0 rfl) ?_
    refine va_get (D := (dC, dI)) (ci := 2) (v := .ref r0_4) (C := RX2) (T := TX2) (N := 6) hx hb hts zn_X2_fix_X2 hown hK hP 0 rfl rfl 4 (by decide) (hts (.fieldLink RX2 15 "ShortEnough$Groups" "fixedAs" "[I") zw_X2_fix_125) (fun _ h9 => h9) rfl dX2_fix_43 ?_
    refine lv_iload_n hx hb dX2_fix_46 rfl (lv_at hl 1 rfl) ?_
    refine lv_aload_n hx hb dX2_fix_47 rfl (lv_at hl 0 rfl) ?_
    refine va_get (D := (dC, dI)) (ci := 2) (v := .ref r0_4) (C := RX2) (T := TX2) (N := 6) hx hb hts zn_X2_fix_X2 hown hK hP 0 rfl rfl 4 (by decide) (hts (.fieldLink RX2 15 "ShortEnough$Groups" "fixedAs" "[I") zw_X2_fix_125) (fun _ h9 => h9) rfl dX2_fix_48 ?_
    refine lv_iload_n hx hb dX2_fix_51 rfl (lv_at hl 1 rfl) ?_
    refine va_iald hx hb hK hP 1 0 rfl rfl (vp_in_iff.mpr ⟨by omega, by omega⟩) dX2_fix_52 ?_
    refine W.eq (g2 := F0 m 53 ls [.int x_2, .int p1, .ref r0_4]) (by rw [← ex_2]) ?_
    refine lv_iconst (v := (-1)) hx hb dX2_fix_53 (by decide +kernel) ?_
    refine lv_icmp_ne (tgt := 61) hx hb dX2_fix_54 (by decide) (fun c_11 => ?_) (fun c_11 => ?_)
    · have oc_11 := zk_ne rfl (by decide +kernel : ((-1) : Int32).toInt = -1) c_11
      refine lv_bipush (v := (-2)) hx hb dX2_fix_61 (by decide +kernel) ?_
      refine va_iast hx hb hK hP hD hS 1 0 rfl rfl (vp_in_iff.mpr ⟨by omega, by omega⟩) dX2_fix_63 (fun H locs hP hD hS => ?_)
      obtain ⟨f_12, ef_12⟩ : ∃ g : Nat → Int32, g = upd f1 (p1 : Int32).toNatClampNeg (-2) := ⟨_, rfl⟩
      have hP : va_P (dC, dI) vwCl [(h0, .inr (2, [.int v0_0, .int v0_1, .int 1, .ref r0_3, .ref r0_4, .ref r0_5])), (r0_4, .inl (k1, 14, .inl f_12))] H := by rw [ef_12]; exact hP
      have hD : va_D A [(h0, .inr (2, [.int v0_0, .int v0_1, .int 1, .ref r0_3, .ref r0_4, .ref r0_5])), (r0_4, .inl (k1, 14, .inl f_12))] := by rw [ef_12]; exact hD
      have hP9 := hP.sub (ws' := [(h0, .inr (2, [.int v0_0, .int v0_1, .int 1, .ref r0_3, .ref r0_4, .ref r0_5])), (r0_4, .inl (k1, 14, .inl f_12))]) [0, 1] rfl
      have hD9 := hD.sub (ws' := [(h0, .inr (2, [.int v0_0, .int v0_1, .int 1, .ref r0_3, .ref r0_4, .ref r0_5])), (r0_4, .inl (k1, 14, .inl f_12))]) [0, 1] (by decide) rfl
      have hK9 := hK.sub (tys' := [(k1, .int)]) [0] rfl
      rw [← hQ]
      exact W.vret hx hb hr (fun t ht hW => ⟨⟨((fun k => ([1] : List Int32).getD k 0), (fun k => ([f_12] : List (Nat → Int32)).getD k (fun _ => 0)), (fun k => ([] : List (Nat → Int64)).getD k (fun _ => 0))), rfl, ⟨(show (0 : Int) ≤ (1 : Int32).toInt ∧ (1 : Int32).toInt ≤ 1 by decide +kernel), trivial⟩, by rw [ht]; exact hP9, va_K.moved hW.alike hK9, hD9⟩, hS.F ht⟩) hS.2.2 dX2_fix_64
    have oc_11 := zk_eq rfl (by decide +kernel : ((-1) : Int32).toInt = -1) c_11
    refine lv_iload_n hx hb dX2_fix_57 rfl (lv_at hl 2 rfl) ?_
    refine lv_goto (tgt := 63) hx hb dX2_fix_58 (by decide) ?_
    refine va_iast hx hb hK hP hD hS 1 0 rfl rfl (vp_in_iff.mpr ⟨by omega, by omega⟩) dX2_fix_63 (fun H locs hP hD hS => ?_)
    obtain ⟨f_13, ef_13⟩ : ∃ g : Nat → Int32, g = upd f1 (p1 : Int32).toNatClampNeg p2 := ⟨_, rfl⟩
    have hP : va_P (dC, dI) vwCl [(h0, .inr (2, [.int v0_0, .int v0_1, .int 1, .ref r0_3, .ref r0_4, .ref r0_5])), (r0_4, .inl (k1, 14, .inl f_13))] H := by rw [ef_13]; exact hP
    have hD : va_D A [(h0, .inr (2, [.int v0_0, .int v0_1, .int 1, .ref r0_3, .ref r0_4, .ref r0_5])), (r0_4, .inl (k1, 14, .inl f_13))] := by rw [ef_13]; exact hD
    have hP9 := hP.sub (ws' := [(h0, .inr (2, [.int v0_0, .int v0_1, .int 1, .ref r0_3, .ref r0_4, .ref r0_5])), (r0_4, .inl (k1, 14, .inl f_13))]) [0, 1] rfl
    have hD9 := hD.sub (ws' := [(h0, .inr (2, [.int v0_0, .int v0_1, .int 1, .ref r0_3, .ref r0_4, .ref r0_5])), (r0_4, .inl (k1, 14, .inl f_13))]) [0, 1] (by decide) rfl
    have hK9 := hK.sub (tys' := [(k1, .int)]) [0] rfl
    rw [← hQ]
    exact W.vret hx hb hr (fun t ht hW => ⟨⟨((fun k => ([1] : List Int32).getD k 0), (fun k => ([f_13] : List (Nat → Int32)).getD k (fun _ => 0)), (fun k => ([] : List (Nat → Int64)).getD k (fun _ => 0))), rfl, ⟨(show (0 : Int) ≤ (1 : Int32).toInt ∧ (1 : Int32).toInt ≤ 1 by decide +kernel), trivial⟩, by rw [ht]; exact hP9, va_K.moved hW.alike hK9, hD9⟩, hS.F ht⟩) hS.2.2 dX2_fix_64
  have oc_3 := zk_eq rfl rfl c_3
  have hP9 := hP.sub (ws' := [(h0, .inr (2, [.int v0_0, .int v0_1, .int v0_2, .ref r0_3, .ref r0_4, .ref r0_5])), (r0_4, .inl (k1, 14, .inl f1))]) [0, 1] rfl
  have hD9 := hD.sub (ws' := [(h0, .inr (2, [.int v0_0, .int v0_1, .int v0_2, .ref r0_3, .ref r0_4, .ref r0_5])), (r0_4, .inl (k1, 14, .inl f1))]) [0, 1] (by decide) rfl
  have hK9 := hK.sub (tys' := [(k1, .int)]) [0] rfl
  rw [← hQ]
  exact W.vret hx hb hr (fun t ht hW => ⟨⟨((fun k => ([v0_2] : List Int32).getD k 0), (fun k => ([f1] : List (Nat → Int32)).getD k (fun _ => 0)), (fun k => ([] : List (Nat → Int64)).getD k (fun _ => 0))), rfl, ⟨(show (0 : Int) ≤ (v0_2 : Int32).toInt ∧ (v0_2 : Int32).toInt ≤ 1 by omega), trivial⟩, by rw [ht]; exact hP9, va_K.moved hW.alike hK9, hD9⟩, hS.F ht⟩) hS.2.2 dX2_fix_15
set_option maxHeartbeats 4000000 in
set_option maxRecDepth 100000 in
theorem zs_X2_gather (l : Launch) (dC : Nat → ClassId) (dI : Nat → Nat → Nat) (h0 : Nat) (h1 : Nat) (v0_0 : Int32) (v0_1 : Int32) (v0_2 : Int32) (r0_3 : Nat) (r0_4 : Nat) (r0_5 : Nat) (v1_0 : Int32) (v1_1 : Int32) (r1_2 : Nat) (r1_3 : Nat) (r1_4 : Nat) (r1_5 : Nat) (r1_6 : Nat) (r1_7 : Nat) (r1_8 : Nat) (r1_9 : Nat) (k2 : Nat) (f2 : Nat → Int32) (k3 : Nat) (f3 : Nat → Int32) (k4 : Nat) (f4 : Nat → Int32) (k5 : Nat) (f5 : Nat → Int32) (k6 : Nat) (f6 : Nat → Int32) (hq_v0_0 : (0 : Int) ≤ v0_0.toInt ∧ v0_0.toInt ≤ 14) (hq_v0_2 : (0 : Int) ≤ v0_2.toInt ∧ v0_2.toInt ≤ 1) (hq_v1_0 : (0 : Int) ≤ v1_0.toInt ∧ v1_0.toInt ≤ 14) (hf3 : zr f3 (-1) 13) (sz : Nat) : Met l yX2_gather wsX2_gather ({ frames := 1, cells := 0, slots := 0, locals := 23 }) (va_Pc [.ref h0, .ref h1] (fun U => U.heap.size = sz ∧ va_P (dC, dI) vwCl [(h0, .inr (2, [.int v0_0, .int v0_1, .int v0_2, .ref r0_3, .ref r0_4, .ref r0_5])), (h1, .inr (4, [.int v1_0, .int v1_1, .ref r1_2, .ref r1_3, .ref r1_4, .ref r1_5, .ref r1_6, .ref r1_7, .ref r1_8, .ref r1_9])), (r1_7, .inl (k2, 14, .inl f2)), (r0_3, .inl (k3, 14, .inl f3)), (r0_5, .inl (k4, 14, .inl f4)), (r0_4, .inl (k5, 14, .inl f5)), (r1_4, .inl (k6, 14, .inl f6))] U.heap ∧ va_K (dC, dI) vwCl [(k2, .int), (k3, .int), (k4, .int), (k5, .int), (k6, .int)] U ∧ va_D (fun _ => True) [(h0, .inr (2, [.int v0_0, .int v0_1, .int v0_2, .ref r0_3, .ref r0_4, .ref r0_5])), (h1, .inr (4, [.int v1_0, .int v1_1, .ref r1_2, .ref r1_3, .ref r1_4, .ref r1_5, .ref r1_6, .ref r1_7, .ref r1_8, .ref r1_9])), (r1_7, .inl (k2, 14, .inl f2)), (r0_3, .inl (k3, 14, .inl f3)), (r0_5, .inl (k4, 14, .inl f4)), (r0_4, .inl (k5, 14, .inl f5)), (r1_4, .inl (k6, 14, .inl f6))])) (va_Qv (fun (u : zV) => ((0 : Int) ≤ (u.1 0).toInt ∧ (u.1 0).toInt ≤ 14) ∧ ((0 : Int) ≤ (u.1 2).toInt ∧ (u.1 2).toInt ≤ 1) ∧ zr (u.2.1 0) (-1) 13 ∧ True) (fun u t => va_P (dC, dI) vwCl [(h0, .inr (2, [.int (u.1 0), .int (u.1 1), .int (u.1 2), .ref r0_3, .ref r0_4, .ref r0_5])), (h1, .inr (4, [.int v1_0, .int v1_1, .ref r1_2, .ref r1_3, .ref r1_4, .ref r1_5, .ref r1_6, .ref r1_7, .ref r1_8, .ref r1_9])), (r1_7, .inl (k2, 14, .inl f2)), (r0_3, .inl (k3, 14, .inl (u.2.1 0))), (r0_5, .inl (k4, 14, .inl (u.2.1 1))), (r0_4, .inl (k5, 14, .inl (u.2.1 2))), (r1_4, .inl (k6, 14, .inl f6))] t.heap ∧ va_K (dC, dI) vwCl [(k2, .int), (k3, .int), (k4, .int), (k5, .int), (k6, .int)] t ∧ va_D (va_A [(h0, .inr (2, [.int v0_0, .int v0_1, .int v0_2, .ref r0_3, .ref r0_4, .ref r0_5])), (h1, .inr (4, [.int v1_0, .int v1_1, .ref r1_2, .ref r1_3, .ref r1_4, .ref r1_5, .ref r1_6, .ref r1_7, .ref r1_8, .ref r1_9])), (r1_7, .inl (k2, 14, .inl f2)), (r0_3, .inl (k3, 14, .inl f3)), (r0_5, .inl (k4, 14, .inl f4)), (r0_4, .inl (k5, 14, .inl f5)), (r1_4, .inl (k6, 14, .inl f6))] sz) [(h0, .inr (2, [.int (u.1 0), .int (u.1 1), .int (u.1 2), .ref r0_3, .ref r0_4, .ref r0_5])), (h1, .inr (4, [.int v1_0, .int v1_1, .ref r1_2, .ref r1_3, .ref r1_4, .ref r1_5, .ref r1_6, .ref r1_7, .ref r1_8, .ref r1_9])), (r1_7, .inl (k2, 14, .inl f2)), (r0_3, .inl (k3, 14, .inl (u.2.1 0))), (r0_5, .inl (k4, 14, .inl (u.2.1 1))), (r0_4, .inl (k5, 14, .inl (u.2.1 2))), (r1_4, .inl (k6, 14, .inl f6))]) (va_A [(h0, .inr (2, [.int v0_0, .int v0_1, .int v0_2, .ref r0_3, .ref r0_4, .ref r0_5])), (h1, .inr (4, [.int v1_0, .int v1_1, .ref r1_2, .ref r1_3, .ref r1_4, .ref r1_5, .ref r1_6, .ref r1_7, .ref r1_8, .ref r1_9])), (r1_7, .inl (k2, 14, .inl f2)), (r0_3, .inl (k3, 14, .inl f3)), (r0_5, .inl (k4, 14, .inl f4)), (r0_4, .inl (k5, 14, .inl f5)), (r1_4, .inl (k6, 14, .inl f6))] sz)) 0 0 (va_A [(h0, .inr (2, [.int v0_0, .int v0_1, .int v0_2, .ref r0_3, .ref r0_4, .ref r0_5])), (h1, .inr (4, [.int v1_0, .int v1_1, .ref r1_2, .ref r1_3, .ref r1_4, .ref r1_5, .ref r1_6, .ref r1_7, .ref r1_8, .ref r1_9])), (r1_7, .inl (k2, 14, .inl f2)), (r0_3, .inl (k3, 14, .inl f3)), (r0_5, .inl (k4, 14, .inl f4)), (r0_4, .inl (k5, 14, .inl f5)), (r1_4, .inl (k6, 14, .inl f6))] sz) := by
  refine Met.ofW (cc := cX2_gather) (maxL := 3) (ret := none) (by decide +kernel) rfl ?_
  intro p e s m args below meth c s₁ B hml hv
  obtain ⟨rfl, hsz, hP, hK, hD0⟩ := hv
  have hx := B.exec
  have hb := B.bytes
  have hr := B.returns
  have hts := atoms_spec (ws := wsX2_gather) B.pre
  have hown : s.vm.findClass RX2 = some m.cls := findClass_of_methodNamed B.named
  have hlocks := B.notSynchronized
  subst hsz
  have hD := hD0.self (sz := s.heap.size)
  generalize hAe : va_A [(h0, .inr (2, [.int v0_0, .int v0_1, .int v0_2, .ref r0_3, .ref r0_4, .ref r0_5])), (h1, .inr (4, [.int v1_0, .int v1_1, .ref r1_2, .ref r1_3, .ref r1_4, .ref r1_5, .ref r1_6, .ref r1_7, .ref r1_8, .ref r1_9])), (r1_7, .inl (k2, 14, .inl f2)), (r0_3, .inl (k3, 14, .inl f3)), (r0_5, .inl (k4, 14, .inl f4)), (r0_4, .inl (k5, 14, .inl f5)), (r1_4, .inl (k6, 14, .inl f6))] s.heap.size = A at hD ⊢
  have hA : ∀ q : Nat, s.heap.size ≤ q → A q := fun q h => by rw [← hAe]; exact Or.inr h
  have hS : va_S A s.heap s.heap [] := va_S.rf
  have hP : va_P (dC, dI) vwCl [(h0, .inr (2, [.int v0_0, .int v0_1, .int v0_2, .ref r0_3, .ref r0_4, .ref r0_5])), (h1, .inr (4, [.int v1_0, .int v1_1, .ref r1_2, .ref r1_3, .ref r1_4, .ref r1_5, .ref r1_6, .ref r1_7, .ref r1_8, .ref r1_9])), (r1_7, .inl (k2, 14, .inl f2)), (r0_3, .inl (k3, 14, .inl f3)), (r0_5, .inl (k4, 14, .inl f4)), (r0_4, .inl (k5, 14, .inl f5)), (r1_4, .inl (k6, 14, .inl f6))] s.heap := hP
  have hl := lv_entry ([.ref h0, .ref h1]) (n := 3) (Nat.le_of_ble_eq_true rfl)
  rw [lg_entry_eq]
  generalize (lg_sl ([.ref h0, .ref h1]) ++ List.replicate (3 - (lg_sl ([.ref h0, .ref h1])).length) Slot.unset).toArray = ls at hl ⊢
  have hl : lv_has ls 3 [(0, .ref h0), (1, .ref h1)] := hl
  generalize hQ : MQ below (va_Qv (fun (u : zV) => ((0 : Int) ≤ (u.1 0).toInt ∧ (u.1 0).toInt ≤ 14) ∧ ((0 : Int) ≤ (u.1 2).toInt ∧ (u.1 2).toInt ≤ 1) ∧ zr (u.2.1 0) (-1) 13 ∧ True) (fun u t => va_P (dC, dI) vwCl [(h0, .inr (2, [.int (u.1 0), .int (u.1 1), .int (u.1 2), .ref r0_3, .ref r0_4, .ref r0_5])), (h1, .inr (4, [.int v1_0, .int v1_1, .ref r1_2, .ref r1_3, .ref r1_4, .ref r1_5, .ref r1_6, .ref r1_7, .ref r1_8, .ref r1_9])), (r1_7, .inl (k2, 14, .inl f2)), (r0_3, .inl (k3, 14, .inl (u.2.1 0))), (r0_5, .inl (k4, 14, .inl (u.2.1 1))), (r0_4, .inl (k5, 14, .inl (u.2.1 2))), (r1_4, .inl (k6, 14, .inl f6))] t.heap ∧ va_K (dC, dI) vwCl [(k2, .int), (k3, .int), (k4, .int), (k5, .int), (k6, .int)] t ∧ va_D A [(h0, .inr (2, [.int (u.1 0), .int (u.1 1), .int (u.1 2), .ref r0_3, .ref r0_4, .ref r0_5])), (h1, .inr (4, [.int v1_0, .int v1_1, .ref r1_2, .ref r1_3, .ref r1_4, .ref r1_5, .ref r1_6, .ref r1_7, .ref r1_8, .ref r1_9])), (r1_7, .inl (k2, 14, .inl f2)), (r0_3, .inl (k3, 14, .inl (u.2.1 0))), (r0_5, .inl (k4, 14, .inl (u.2.1 1))), (r0_4, .inl (k5, 14, .inl (u.2.1 2))), (r1_4, .inl (k6, 14, .inl f6))]) A) ([.ref h0, .ref h1] : List Value).toArray s 0 0 A = Q
  refine lv_aload_n hx hb dX2_gather_0 rfl (lv_at hl 0 rfl) ?_
  refine lv_iconst (v := 0) hx hb dX2_gather_1 (by decide +kernel) ?_
  refine va_put (D := (dC, dI)) (ci := 2) (v := .int 0) (ty := .int) (C := RX2) (T := TX2) (N := 6) hx hb hts zn_X2_gather_X2 tyX2 tyX2_ok nmX2 hown hK hP hD hS 0 rfl rfl 0 (by decide) (hts (.fieldLink RX2 21 "ShortEnough$Groups" "count" "I") zw_X2_gather_128) (fun _ h9 => h9) rfl (by decide +kernel) rfl rfl (Nat.le_of_ble_eq_true rfl) dX2_gather_2 (fun H locs hP hD hS => ?_)
  have hP : va_P (dC, dI) vwCl [(h0, .inr (2, [.int 0, .int v0_1, .int v0_2, .ref r0_3, .ref r0_4, .ref r0_5])), (h1, .inr (4, [.int v1_0, .int v1_1, .ref r1_2, .ref r1_3, .ref r1_4, .ref r1_5, .ref r1_6, .ref r1_7, .ref r1_8, .ref r1_9])), (r1_7, .inl (k2, 14, .inl f2)), (r0_3, .inl (k3, 14, .inl f3)), (r0_5, .inl (k4, 14, .inl f4)), (r0_4, .inl (k5, 14, .inl f5)), (r1_4, .inl (k6, 14, .inl f6))] H := hP
  have hD : va_D A [(h0, .inr (2, [.int 0, .int v0_1, .int v0_2, .ref r0_3, .ref r0_4, .ref r0_5])), (h1, .inr (4, [.int v1_0, .int v1_1, .ref r1_2, .ref r1_3, .ref r1_4, .ref r1_5, .ref r1_6, .ref r1_7, .ref r1_8, .ref r1_9])), (r1_7, .inl (k2, 14, .inl f2)), (r0_3, .inl (k3, 14, .inl f3)), (r0_5, .inl (k4, 14, .inl f4)), (r0_4, .inl (k5, 14, .inl f5)), (r1_4, .inl (k6, 14, .inl f6))] := hD
  refine lv_aload_n hx hb dX2_gather_5 rfl (lv_at hl 0 rfl) ?_
  refine lv_iconst (v := 0) hx hb dX2_gather_6 (by decide +kernel) ?_
  refine va_put (D := (dC, dI)) (ci := 2) (v := .int 0) (ty := .boolean) (C := RX2) (T := TX2) (N := 6) hx hb hts zn_X2_gather_X2 tyX2 tyX2_ok nmX2 hown hK hP hD hS 0 rfl rfl 2 (by decide) (hts (.fieldLink RX2 25 "ShortEnough$Groups" "clash" "Z") zw_X2_gather_129) (fun _ h9 => h9) rfl (by decide +kernel) rfl rfl (Nat.le_of_ble_eq_true rfl) dX2_gather_7 (fun H locs hP hD hS => ?_)
  have hP : va_P (dC, dI) vwCl [(h0, .inr (2, [.int 0, .int v0_1, .int 0, .ref r0_3, .ref r0_4, .ref r0_5])), (h1, .inr (4, [.int v1_0, .int v1_1, .ref r1_2, .ref r1_3, .ref r1_4, .ref r1_5, .ref r1_6, .ref r1_7, .ref r1_8, .ref r1_9])), (r1_7, .inl (k2, 14, .inl f2)), (r0_3, .inl (k3, 14, .inl f3)), (r0_5, .inl (k4, 14, .inl f4)), (r0_4, .inl (k5, 14, .inl f5)), (r1_4, .inl (k6, 14, .inl f6))] H := hP
  have hD : va_D A [(h0, .inr (2, [.int 0, .int v0_1, .int 0, .ref r0_3, .ref r0_4, .ref r0_5])), (h1, .inr (4, [.int v1_0, .int v1_1, .ref r1_2, .ref r1_3, .ref r1_4, .ref r1_5, .ref r1_6, .ref r1_7, .ref r1_8, .ref r1_9])), (r1_7, .inl (k2, 14, .inl f2)), (r0_3, .inl (k3, 14, .inl f3)), (r0_5, .inl (k4, 14, .inl f4)), (r0_4, .inl (k5, 14, .inl f5)), (r1_4, .inl (k6, 14, .inl f6))] := hD
  refine lv_iconst (v := 0) hx hb dX2_gather_10 (by decide +kernel) ?_
  refine lv_istore_n (lv' := [(2, .int 0), (0, .ref h0), (1, .ref h1)]) hx hb dX2_gather_11 rfl hl (by decide) rfl (fun ls hl => ?_)
  have lp12 : ∀ (n : Nat) (g12_r0_3 : Nat → Int32) (g12_r0_4 : Nat → Int32) (g12_r0_5 : Nat → Int32) (y12_2 : Int32) (y12_h0_0 : Int32) (y12_h0_2 : Int32) (H : Heap) (locs : List Loc) (ls : Array Slot), (0 : Int) ≤ y12_2.toInt + (0) → (0 : Int) ≤ y12_h0_0.toInt + (0) → (0 : Int) ≤ y12_h0_2.toInt + (0) → (y12_2.toInt : Int) ≤ 0 + (14) → (y12_2.toInt : Int) ≤ v1_0.toInt + (0) → (y12_h0_0.toInt : Int) ≤ 0 + (14) → (y12_h0_0.toInt : Int) ≤ v1_0.toInt + (0) → (y12_h0_0.toInt : Int) ≤ y12_2.toInt + (0) → (y12_h0_2.toInt : Int) ≤ 0 + (1) → (y12_h0_2.toInt : Int) ≤ v1_0.toInt + (0) → (y12_h0_2.toInt : Int) ≤ y12_2.toInt + (0) → zr g12_r0_3 (-1) 13 → 15 - y12_2.toInt < n → va_P (dC, dI) vwCl [(h0, .inr (2, [.int y12_h0_0, .int v0_1, .int y12_h0_2, .ref r0_3, .ref r0_4, .ref r0_5])), (h1, .inr (4, [.int v1_0, .int v1_1, .ref r1_2, .ref r1_3, .ref r1_4, .ref r1_5, .ref r1_6, .ref r1_7, .ref r1_8, .ref r1_9])), (r1_7, .inl (k2, 14, .inl f2)), (r0_3, .inl (k3, 14, .inl g12_r0_3)), (r0_5, .inl (k4, 14, .inl g12_r0_5)), (r0_4, .inl (k5, 14, .inl g12_r0_4)), (r1_4, .inl (k6, 14, .inl f6))] H → va_D A [(h0, .inr (2, [.int y12_h0_0, .int v0_1, .int y12_h0_2, .ref r0_3, .ref r0_4, .ref r0_5])), (h1, .inr (4, [.int v1_0, .int v1_1, .ref r1_2, .ref r1_3, .ref r1_4, .ref r1_5, .ref r1_6, .ref r1_7, .ref r1_8, .ref r1_9])), (r1_7, .inl (k2, 14, .inl f2)), (r0_3, .inl (k3, 14, .inl g12_r0_3)), (r0_5, .inl (k4, 14, .inl g12_r0_5)), (r0_4, .inl (k5, 14, .inl g12_r0_4)), (r1_4, .inl (k6, 14, .inl f6))] → va_S A s.heap H locs → lv_has ls 3 [(2, .int y12_2), (0, .ref h0), (1, .ref h1)] → W p l e (headSpec wsX2_gather ({ frames := 1, cells := 0, slots := 0, locals := 23 })).room s m ([.ref h0, .ref h1] : List Value).toArray below meth c H locs 0 0 Q (F0 m 12 ls []) := by
    intro n
    induction n with
    | zero =>
      intro g12_r0_3 g12_r0_4 g12_r0_5 y12_2 y12_h0_0 y12_h0_2 H locs ls hz12_0 hz12_1 hz12_2 hz12_3 hz12_4 hz12_5 hz12_6 hz12_7 hz12_8 hz12_9 hz12_10 hg12_r0_3  hmeas hP hD hS hl
      exfalso; omega
    | succ n ih12 =>
      intro g12_r0_3 g12_r0_4 g12_r0_5 y12_2 y12_h0_0 y12_h0_2 H locs ls hz12_0 hz12_1 hz12_2 hz12_3 hz12_4 hz12_5 hz12_6 hz12_7 hz12_8 hz12_9 hz12_10 hg12_r0_3  hmeas hP hD hS hl
      refine lv_iload_n hx hb dX2_gather_12 rfl (lv_at hl 0 rfl) ?_
      refine lv_aload_n hx hb dX2_gather_13 rfl (lv_at hl 2 rfl) ?_
      refine va_get (D := (dC, dI)) (ci := 4) (v := .int v1_0) (C := RX4) (T := TX4) (N := 10) hx hb hts zn_X2_gather_X4 hown hK hP 1 rfl rfl 0 (by decide) (hts (.fieldLink RX2 29 "ShortEnough$Numbers" "count" "I") zw_X2_gather_131) (fun _ h9 => h9) rfl dX2_gather_14 ?_
      refine lv_icmp_ge (tgt := 104) hx hb dX2_gather_17 (by decide) (fun c_1 => ?_) (fun c_1 => ?_)
      · have oc_1 := zk_le rfl rfl c_1
        refine lv_aload_n hx hb dX2_gather_104 rfl (lv_at hl 1 rfl) ?_
        refine lv_iconst (v := 0) hx hb dX2_gather_105 (by decide +kernel) ?_
        refine va_put (D := (dC, dI)) (ci := 2) (v := .int 0) (ty := .int) (C := RX2) (T := TX2) (N := 6) hx hb hts zn_X2_gather_X2 tyX2 tyX2_ok nmX2 hown hK hP hD hS 0 rfl rfl 1 (by decide) (hts (.fieldLink RX2 41 "ShortEnough$Groups" "free" "I") zw_X2_gather_132) (fun _ h9 => h9) rfl (by decide +kernel) rfl rfl (Nat.le_of_ble_eq_true rfl) dX2_gather_106 (fun H locs hP hD hS => ?_)
        have hP : va_P (dC, dI) vwCl [(h0, .inr (2, [.int y12_h0_0, .int 0, .int y12_h0_2, .ref r0_3, .ref r0_4, .ref r0_5])), (h1, .inr (4, [.int v1_0, .int v1_1, .ref r1_2, .ref r1_3, .ref r1_4, .ref r1_5, .ref r1_6, .ref r1_7, .ref r1_8, .ref r1_9])), (r1_7, .inl (k2, 14, .inl f2)), (r0_3, .inl (k3, 14, .inl g12_r0_3)), (r0_5, .inl (k4, 14, .inl g12_r0_5)), (r0_4, .inl (k5, 14, .inl g12_r0_4)), (r1_4, .inl (k6, 14, .inl f6))] H := hP
        have hD : va_D A [(h0, .inr (2, [.int y12_h0_0, .int 0, .int y12_h0_2, .ref r0_3, .ref r0_4, .ref r0_5])), (h1, .inr (4, [.int v1_0, .int v1_1, .ref r1_2, .ref r1_3, .ref r1_4, .ref r1_5, .ref r1_6, .ref r1_7, .ref r1_8, .ref r1_9])), (r1_7, .inl (k2, 14, .inl f2)), (r0_3, .inl (k3, 14, .inl g12_r0_3)), (r0_5, .inl (k4, 14, .inl g12_r0_5)), (r0_4, .inl (k5, 14, .inl g12_r0_4)), (r1_4, .inl (k6, 14, .inl f6))] := hD
        refine lv_iconst (v := 0) hx hb dX2_gather_109 (by decide +kernel) ?_
        refine lv_istore_n (lv' := [(2, .int 0), (0, .ref h0), (1, .ref h1)]) hx hb dX2_gather_110 rfl hl (by decide) rfl (fun ls hl => ?_)
        have lp111 : ∀ (n : Nat) (y111_2 : Int32) (y111_h0_1 : Int32) (H : Heap) (locs : List Loc) (ls : Array Slot), (0 : Int) ≤ y111_2.toInt + (0) → (0 : Int) ≤ y111_h0_1.toInt + (0) → (y111_2.toInt : Int) ≤ 0 + (14) → (y111_2.toInt : Int) ≤ v1_0.toInt + (0) → (y111_2.toInt : Int) ≤ y12_h0_0.toInt + (0) → (y111_h0_1.toInt : Int) ≤ 0 + (14) → (y111_h0_1.toInt : Int) ≤ v1_0.toInt + (0) → (y111_h0_1.toInt : Int) ≤ y111_2.toInt + (0) → (y111_h0_1.toInt : Int) ≤ y12_h0_0.toInt + (0) → 15 - y111_2.toInt < n → va_P (dC, dI) vwCl [(h0, .inr (2, [.int y12_h0_0, .int y111_h0_1, .int y12_h0_2, .ref r0_3, .ref r0_4, .ref r0_5])), (h1, .inr (4, [.int v1_0, .int v1_1, .ref r1_2, .ref r1_3, .ref r1_4, .ref r1_5, .ref r1_6, .ref r1_7, .ref r1_8, .ref r1_9])), (r1_7, .inl (k2, 14, .inl f2)), (r0_3, .inl (k3, 14, .inl g12_r0_3)), (r0_5, .inl (k4, 14, .inl g12_r0_5)), (r0_4, .inl (k5, 14, .inl g12_r0_4)), (r1_4, .inl (k6, 14, .inl f6))] H → va_D A [(h0, .inr (2, [.int y12_h0_0, .int y111_h0_1, .int y12_h0_2, .ref r0_3, .ref r0_4, .ref r0_5])), (h1, .inr (4, [.int v1_0, .int v1_1, .ref r1_2, .ref r1_3, .ref r1_4, .ref r1_5, .ref r1_6, .ref r1_7, .ref r1_8, .ref r1_9])), (r1_7, .inl (k2, 14, .inl f2)), (r0_3, .inl (k3, 14, .inl g12_r0_3)), (r0_5, .inl (k4, 14, .inl g12_r0_5)), (r0_4, .inl (k5, 14, .inl g12_r0_4)), (r1_4, .inl (k6, 14, .inl f6))] → va_S A s.heap H locs → lv_has ls 3 [(2, .int y111_2), (0, .ref h0), (1, .ref h1)] → W p l e (headSpec wsX2_gather ({ frames := 1, cells := 0, slots := 0, locals := 23 })).room s m ([.ref h0, .ref h1] : List Value).toArray below meth c H locs 0 0 Q (F0 m 111 ls []) := by
          intro n
          induction n with
          | zero =>
            intro y111_2 y111_h0_1 H locs ls hz111_0 hz111_1 hz111_2 hz111_3 hz111_4 hz111_5 hz111_6 hz111_7 hz111_8  hmeas hP hD hS hl
            exfalso; omega
          | succ n ih111 =>
            intro y111_2 y111_h0_1 H locs ls hz111_0 hz111_1 hz111_2 hz111_3 hz111_4 hz111_5 hz111_6 hz111_7 hz111_8  hmeas hP hD hS hl
            refine lv_iload_n hx hb dX2_gather_111 rfl (lv_at hl 0 rfl) ?_
            refine lv_aload_n hx hb dX2_gather_112 rfl (lv_at hl 1 rfl) ?_
            refine va_get (D := (dC, dI)) (ci := 2) (v := .int y12_h0_0) (C := RX2) (T := TX2) (N := 6) hx hb hts zn_X2_gather_X2 hown hK hP 0 rfl rfl 0 (by decide) (hts (.fieldLink RX2 21 "ShortEnough$Groups" "count" "I") zw_X2_gather_128) (fun _ h9 => h9) rfl dX2_gather_113 ?_
            refine lv_icmp_ge (tgt := 149) hx hb dX2_gather_116 (by decide) (fun c_2 => ?_) (fun c_2 => ?_)
            · have oc_2 := zk_le rfl rfl c_2
              have hP9 := hP.sub (ws' := [(h0, .inr (2, [.int y12_h0_0, .int y111_h0_1, .int y12_h0_2, .ref r0_3, .ref r0_4, .ref r0_5])), (h1, .inr (4, [.int v1_0, .int v1_1, .ref r1_2, .ref r1_3, .ref r1_4, .ref r1_5, .ref r1_6, .ref r1_7, .ref r1_8, .ref r1_9])), (r1_7, .inl (k2, 14, .inl f2)), (r0_3, .inl (k3, 14, .inl g12_r0_3)), (r0_5, .inl (k4, 14, .inl g12_r0_5)), (r0_4, .inl (k5, 14, .inl g12_r0_4)), (r1_4, .inl (k6, 14, .inl f6))]) [0, 1, 2, 3, 4, 5, 6] rfl
              have hD9 := hD.sub (ws' := [(h0, .inr (2, [.int y12_h0_0, .int y111_h0_1, .int y12_h0_2, .ref r0_3, .ref r0_4, .ref r0_5])), (h1, .inr (4, [.int v1_0, .int v1_1, .ref r1_2, .ref r1_3, .ref r1_4, .ref r1_5, .ref r1_6, .ref r1_7, .ref r1_8, .ref r1_9])), (r1_7, .inl (k2, 14, .inl f2)), (r0_3, .inl (k3, 14, .inl g12_r0_3)), (r0_5, .inl (k4, 14, .inl g12_r0_5)), (r0_4, .inl (k5, 14, .inl g12_r0_4)), (r1_4, .inl (k6, 14, .inl f6))]) [0, 1, 2, 3, 4, 5, 6] (by decide) rfl
              have hK9 := hK.sub (tys' := [(k2, .int), (k3, .int), (k4, .int), (k5, .int), (k6, .int)]) [0, 1, 2, 3, 4] rfl
              rw [← hQ]
              exact W.vret hx hb hr (fun t ht hW => ⟨⟨((fun k => ([y12_h0_0, y111_h0_1, y12_h0_2] : List Int32).getD k 0), (fun k => ([g12_r0_3, g12_r0_5, g12_r0_4] : List (Nat → Int32)).getD k (fun _ => 0)), (fun k => ([] : List (Nat → Int64)).getD k (fun _ => 0))), rfl, ⟨(show (0 : Int) ≤ (y12_h0_0 : Int32).toInt ∧ (y12_h0_0 : Int32).toInt ≤ 14 by omega), (show (0 : Int) ≤ (y12_h0_2 : Int32).toInt ∧ (y12_h0_2 : Int32).toInt ≤ 1 by omega), (show zr g12_r0_3 (-1) 13 from hg12_r0_3), trivial⟩, by rw [ht]; exact hP9, va_K.moved hW.alike hK9, hD9⟩, hS.F ht⟩) hS.2.2 dX2_gather_149
            have oc_2 := zk_nle rfl rfl c_2
            refine lv_aload_n hx hb dX2_gather_119 rfl (lv_at hl 1 rfl) ?_
            refine lv_dup hx hb dX2_gather_120 rfl ?_
            refine va_get (D := (dC, dI)) (ci := 2) (v := .int y111_h0_1) (C := RX2) (T := TX2) (N := 6) hx hb hts zn_X2_gather_X2 hown hK hP 0 rfl rfl 1 (by decide) (hts (.fieldLink RX2 41 "ShortEnough$Groups" "free" "I") zw_X2_gather_132) (fun _ h9 => h9) rfl dX2_gather_121 ?_
            refine lv_aload_n hx hb dX2_gather_124 rfl (lv_at hl 1 rfl) ?_
            refine va_get (D := (dC, dI)) (ci := 2) (v := .ref r0_4) (C := RX2) (T := TX2) (N := 6) hx hb hts zn_X2_gather_X2 hown hK hP 0 rfl rfl 4 (by decide) (hts (.fieldLink RX2 15 "ShortEnough$Groups" "fixedAs" "[I") zw_X2_gather_135) (fun _ h9 => h9) rfl dX2_gather_125 ?_
            refine lv_iload_n hx hb dX2_gather_128 rfl (lv_at hl 0 rfl) ?_
            refine va_iald hx hb hK hP 5 3 rfl rfl (vp_in_iff.mpr ⟨by omega, by omega⟩) dX2_gather_129 ?_
            refine lv_topi (fun x_3 ex_3 => ?_)
            refine lv_iconst (v := (-1)) hx hb dX2_gather_130 (by decide +kernel) ?_
            refine lv_icmp_ne (tgt := 138) hx hb dX2_gather_131 (by decide) (fun c_4 => ?_) (fun c_4 => ?_)
            · have oc_4 := zk_ne rfl (by decide +kernel : ((-1) : Int32).toInt = -1) c_4
              refine lv_iconst (v := 0) hx hb dX2_gather_138 (by decide +kernel) ?_
              refine lv_iadd hx hb dX2_gather_139 ?_
              refine lv_topi (fun x_5 ex_5 => ?_)
              have hx_5 := zo_add ex_5 rfl (by decide +kernel : (0 : Int32).toInt = 0) (by omega)
              refine va_put (D := (dC, dI)) (ci := 2) (v := .int x_5) (ty := .int) (C := RX2) (T := TX2) (N := 6) hx hb hts zn_X2_gather_X2 tyX2 tyX2_ok nmX2 hown hK hP hD hS 0 rfl rfl 1 (by decide) (hts (.fieldLink RX2 41 "ShortEnough$Groups" "free" "I") zw_X2_gather_132) (fun _ h9 => h9) rfl (by decide +kernel) rfl rfl (Nat.le_of_ble_eq_true rfl) dX2_gather_140 (fun H locs hP hD hS => ?_)
              have hP : va_P (dC, dI) vwCl [(h0, .inr (2, [.int y12_h0_0, .int x_5, .int y12_h0_2, .ref r0_3, .ref r0_4, .ref r0_5])), (h1, .inr (4, [.int v1_0, .int v1_1, .ref r1_2, .ref r1_3, .ref r1_4, .ref r1_5, .ref r1_6, .ref r1_7, .ref r1_8, .ref r1_9])), (r1_7, .inl (k2, 14, .inl f2)), (r0_3, .inl (k3, 14, .inl g12_r0_3)), (r0_5, .inl (k4, 14, .inl g12_r0_5)), (r0_4, .inl (k5, 14, .inl g12_r0_4)), (r1_4, .inl (k6, 14, .inl f6))] H := hP
              have hD : va_D A [(h0, .inr (2, [.int y12_h0_0, .int x_5, .int y12_h0_2, .ref r0_3, .ref r0_4, .ref r0_5])), (h1, .inr (4, [.int v1_0, .int v1_1, .ref r1_2, .ref r1_3, .ref r1_4, .ref r1_5, .ref r1_6, .ref r1_7, .ref r1_8, .ref r1_9])), (r1_7, .inl (k2, 14, .inl f2)), (r0_3, .inl (k3, 14, .inl g12_r0_3)), (r0_5, .inl (k4, 14, .inl g12_r0_5)), (r0_4, .inl (k5, 14, .inl g12_r0_4)), (r1_4, .inl (k6, 14, .inl f6))] := hD
              obtain ⟨x_6, ex_6⟩ : ∃ y : Int32, y = y111_2 + 1 := ⟨_, rfl⟩
              refine lv_iinc (v := x_6) (lv' := [(2, .int x_6), (0, .ref h0), (1, .ref h1)]) hx hb dX2_gather_143 hl (k := 0) rfl (by rw [ex_6]; rfl) (by decide) rfl (fun ls hl => ?_)
              have hx_6 := zo_add ex_6 rfl (by decide +kernel : (1 : Int32).toInt = 1) (by omega)
              refine lv_goto (tgt := 111) hx hb dX2_gather_146 (by decide) ?_
              exact ih111  x_6 x_5 H locs ls (by omega) (by omega) (by omega) (by omega) (by omega) (by omega) (by omega) (by omega) (by omega)  (by omega) hP hD hS (lv_sub hl [0, 1, 2] rfl)
            have oc_4 := zk_eq rfl (by decide +kernel : ((-1) : Int32).toInt = -1) c_4
            refine lv_iconst (v := 1) hx hb dX2_gather_134 (by decide +kernel) ?_
            refine lv_goto (tgt := 139) hx hb dX2_gather_135 (by decide) ?_
            refine lv_iadd hx hb dX2_gather_139 ?_
            refine lv_topi (fun x_7 ex_7 => ?_)
            have hx_7 := zo_add ex_7 rfl (by decide +kernel : (1 : Int32).toInt = 1) (by omega)
            refine va_put (D := (dC, dI)) (ci := 2) (v := .int x_7) (ty := .int) (C := RX2) (T := TX2) (N := 6) hx hb hts zn_X2_gather_X2 tyX2 tyX2_ok nmX2 hown hK hP hD hS 0 rfl rfl 1 (by decide) (hts (.fieldLink RX2 41 "ShortEnough$Groups" "free" "I") zw_X2_gather_132) (fun _ h9 => h9) rfl (by decide +kernel) rfl rfl (Nat.le_of_ble_eq_true rfl) dX2_gather_140 (fun H locs hP hD hS => ?_)
            have hP : va_P (dC, dI) vwCl [(h0, .inr (2, [.int y12_h0_0, .int x_7, .int y12_h0_2, .ref r0_3, .ref r0_4, .ref r0_5])), (h1, .inr (4, [.int v1_0, .int v1_1, .ref r1_2, .ref r1_3, .ref r1_4, .ref r1_5, .ref r1_6, .ref r1_7, .ref r1_8, .ref r1_9])), (r1_7, .inl (k2, 14, .inl f2)), (r0_3, .inl (k3, 14, .inl g12_r0_3)), (r0_5, .inl (k4, 14, .inl g12_r0_5)), (r0_4, .inl (k5, 14, .inl g12_r0_4)), (r1_4, .inl (k6, 14, .inl f6))] H := hP
            have hD : va_D A [(h0, .inr (2, [.int y12_h0_0, .int x_7, .int y12_h0_2, .ref r0_3, .ref r0_4, .ref r0_5])), (h1, .inr (4, [.int v1_0, .int v1_1, .ref r1_2, .ref r1_3, .ref r1_4, .ref r1_5, .ref r1_6, .ref r1_7, .ref r1_8, .ref r1_9])), (r1_7, .inl (k2, 14, .inl f2)), (r0_3, .inl (k3, 14, .inl g12_r0_3)), (r0_5, .inl (k4, 14, .inl g12_r0_5)), (r0_4, .inl (k5, 14, .inl g12_r0_4)), (r1_4, .inl (k6, 14, .inl f6))] := hD
            obtain ⟨x_8, ex_8⟩ : ∃ y : Int32, y = y111_2 + 1 := ⟨_, rfl⟩
            refine lv_iinc (v := x_8) (lv' := [(2, .int x_8), (0, .ref h0), (1, .ref h1)]) hx hb dX2_gather_143 hl (k := 0) rfl (by rw [ex_8]; rfl) (by decide) rfl (fun ls hl => ?_)
            have hx_8 := zo_add ex_8 rfl (by decide +kernel : (1 : Int32).toInt = 1) (by omega)
            refine lv_goto (tgt := 111) hx hb dX2_gather_146 (by decide) ?_
            exact ih111  x_8 x_7 H locs ls (by omega) (by omega) (by omega) (by omega) (by omega) (by omega) (by omega) (by omega) (by omega)  (by omega) hP hD hS (lv_sub hl [0, 1, 2] rfl)
        have kk0 : (0 : Int32).toInt = 0 := (by decide +kernel)
        exact lp111 ((15 - (0 : Int32).toInt).toNat + 1) 0 0 H locs ls (by omega) (by omega) (by omega) (by omega) (by omega) (by omega) (by omega) (by omega) (by omega)  (by omega) hP hD hS (lv_sub hl [0, 1, 2] rfl)
      have oc_1 := zk_nle rfl rfl c_1
      refine lv_aload_n hx hb dX2_gather_20 rfl (lv_at hl 1 rfl) ?_
      refine va_get (D := (dC, dI)) (ci := 2) (v := .ref r0_3) (C := RX2) (T := TX2) (N := 6) hx hb hts zn_X2_gather_X2 hown hK hP 0 rfl rfl 3 (by decide) (hts (.fieldLink RX2 9 "ShortEnough$Groups" "of" "[I") zw_X2_gather_133) (fun _ h9 => h9) rfl dX2_gather_21 ?_
      refine lv_iload_n hx hb dX2_gather_24 rfl (lv_at hl 0 rfl) ?_
      refine lv_aload_n hx hb dX2_gather_25 rfl (lv_at hl 1 rfl) ?_
      refine lv_aload_n hx hb dX2_gather_26 rfl (lv_at hl 2 rfl) ?_
      refine lv_iload_n hx hb dX2_gather_27 rfl (lv_at hl 0 rfl) ?_
      have hPc := hP.sub (ws' := [(h0, .inr (2, [.int y12_h0_0, .int v0_1, .int y12_h0_2, .ref r0_3, .ref r0_4, .ref r0_5])), (h1, .inr (4, [.int v1_0, .int v1_1, .ref r1_2, .ref r1_3, .ref r1_4, .ref r1_5, .ref r1_6, .ref r1_7, .ref r1_8, .ref r1_9])), (r1_7, .inl (k2, 14, .inl f2)), (r0_3, .inl (k3, 14, .inl g12_r0_3))]) [0, 1, 2, 3] rfl
      have hDc := hD.sub (ws' := [(h0, .inr (2, [.int y12_h0_0, .int v0_1, .int y12_h0_2, .ref r0_3, .ref r0_4, .ref r0_5])), (h1, .inr (4, [.int v1_0, .int v1_1, .ref r1_2, .ref r1_3, .ref r1_4, .ref r1_5, .ref r1_6, .ref r1_7, .ref r1_8, .ref r1_9])), (r1_7, .inl (k2, 14, .inl f2)), (r0_3, .inl (k3, 14, .inl g12_r0_3))]) [0, 1, 2, 3] (by decide) rfl
      have hKc := hK.sub (tys' := [(k2, .int), (k3, .int)]) [0, 1] rfl
      have hFc := va_free (wc := [(h0, .inr (2, [.int y12_h0_0, .int v0_1, .int y12_h0_2, .ref r0_3, .ref r0_4, .ref r0_5])), (h1, .inr (4, [.int v1_0, .int v1_1, .ref r1_2, .ref r1_3, .ref r1_4, .ref r1_5, .ref r1_6, .ref r1_7, .ref r1_8, .ref r1_9])), (r1_7, .inl (k2, 14, .inl f2)), (r0_3, .inl (k3, 14, .inl g12_r0_3))]) hD hS hA [0, 1, 2, 3] rfl
      refine va_calli (va_runV (As := [.ref h1, .int y12_2]) (rest := [.int y12_2, .ref r0_3]) ⟨hx, hb, hml, hown, hts⟩ (zs_X2_earlierGroup l dC dI h0 h1 y12_2 y12_h0_0 v0_1 y12_h0_2 r0_3 r0_4 r0_5 v1_0 v1_1 r1_2 r1_3 r1_4 r1_5 r1_6 r1_7 r1_8 r1_9 k2 f2 k3 g12_r0_3 (by omega) (by omega) (by omega) (by omega) hg12_r0_3 H.size) (cwV 2 hts gX2_gather_X2_earlierGroup rfl rfl rfl (by decide +kernel) ⟨Nat.le_of_ble_eq_true rfl, Nat.le_of_ble_eq_true rfl⟩) ⟨fun a U g mk q => by obtain ⟨q0, q1, qP, qK, qD⟩ := q; exact ⟨q0, q1, qP, va_K.moved (u := U) (U := U.calling g mk a) (Vm.Alike.refl U.vm) qK, qD⟩, va_recv hKc hPc (ci := 2) (q0 := 0) rfl rfl, fun U hU hW => ⟨rfl, by rw [hU], by rw [hU]; exact hPc, va_K.moved hW.alike hKc, hDc.weaken (fun _ _ _ _ => trivial)⟩⟩ rfl rfl hl.1 rfl (lv_room (Nat.le_of_ble_eq_true rfl)) dX2_gather_28 ⟨Nat.le_of_ble_eq_true rfl, Nat.le_of_ble_eq_true rfl⟩) hS (fun q _ h => hFc q h) hFc (fun r_9 u_10 t H1 locs ht hvm hw_11 hB hz1 hk1 hS => ?_)
      obtain ⟨hP1, hK1, hD1⟩ := hB
      rw [ht] at hP1
      have hK1 := va_K.moved hvm.symm hK1
      obtain ⟨hP, hD⟩ := va_join (wr := [(r0_5, .inl (k4, 14, .inl g12_r0_5)), (r0_4, .inl (k5, 14, .inl g12_r0_4)), (r1_4, .inl (k6, 14, .inl f6))]) (w1 := [(h0, .inr (2, [.int y12_h0_0, .int v0_1, .int y12_h0_2, .ref r0_3, .ref r0_4, .ref r0_5])), (h1, .inr (4, [.int v1_0, .int v1_1, .ref r1_2, .ref r1_3, .ref r1_4, .ref r1_5, .ref r1_6, .ref r1_7, .ref r1_8, .ref r1_9])), (r1_7, .inl (k2, 14, .inl f2)), (r0_3, .inl (k3, 14, .inl g12_r0_3))]) hP hD [0, 1, 2, 3] [4, 5, 6] rfl rfl (by decide) (by decide) hk1 hFc hP1 hD1
      have hK := hK
      generalize H1 = H at hP hS ⊢
      have hP := hP.sub (ws' := [(h0, .inr (2, [.int y12_h0_0, .int v0_1, .int y12_h0_2, .ref r0_3, .ref r0_4, .ref r0_5])), (h1, .inr (4, [.int v1_0, .int v1_1, .ref r1_2, .ref r1_3, .ref r1_4, .ref r1_5, .ref r1_6, .ref r1_7, .ref r1_8, .ref r1_9])), (r1_7, .inl (k2, 14, .inl f2)), (r0_3, .inl (k3, 14, .inl g12_r0_3)), (r0_5, .inl (k4, 14, .inl g12_r0_5)), (r0_4, .inl (k5, 14, .inl g12_r0_4)), (r1_4, .inl (k6, 14, .inl f6))]) [3, 4, 5, 6, 0, 1, 2] rfl
      have hD := hD.sub (ws' := [(h0, .inr (2, [.int y12_h0_0, .int v0_1, .int y12_h0_2, .ref r0_3, .ref r0_4, .ref r0_5])), (h1, .inr (4, [.int v1_0, .int v1_1, .ref r1_2, .ref r1_3, .ref r1_4, .ref r1_5, .ref r1_6, .ref r1_7, .ref r1_8, .ref r1_9])), (r1_7, .inl (k2, 14, .inl f2)), (r0_3, .inl (k3, 14, .inl g12_r0_3)), (r0_5, .inl (k4, 14, .inl g12_r0_5)), (r0_4, .inl (k5, 14, .inl g12_r0_4)), (r1_4, .inl (k6, 14, .inl f6))]) [3, 4, 5, 6, 0, 1, 2] (by decide) rfl
      have hP : va_P (dC, dI) vwCl [(h0, .inr (2, [.int y12_h0_0, .int v0_1, .int y12_h0_2, .ref r0_3, .ref r0_4, .ref r0_5])), (h1, .inr (4, [.int v1_0, .int v1_1, .ref r1_2, .ref r1_3, .ref r1_4, .ref r1_5, .ref r1_6, .ref r1_7, .ref r1_8, .ref r1_9])), (r1_7, .inl (k2, 14, .inl f2)), (r0_3, .inl (k3, 14, .inl g12_r0_3)), (r0_5, .inl (k4, 14, .inl g12_r0_5)), (r0_4, .inl (k5, 14, .inl g12_r0_4)), (r1_4, .inl (k6, 14, .inl f6))] H := hP
      have hD : va_D A [(h0, .inr (2, [.int y12_h0_0, .int v0_1, .int y12_h0_2, .ref r0_3, .ref r0_4, .ref r0_5])), (h1, .inr (4, [.int v1_0, .int v1_1, .ref r1_2, .ref r1_3, .ref r1_4, .ref r1_5, .ref r1_6, .ref r1_7, .ref r1_8, .ref r1_9])), (r1_7, .inl (k2, 14, .inl f2)), (r0_3, .inl (k3, 14, .inl g12_r0_3)), (r0_5, .inl (k4, 14, .inl g12_r0_5)), (r0_4, .inl (k5, 14, .inl g12_r0_4)), (r1_4, .inl (k6, 14, .inl f6))] := hD
      obtain ⟨hr_9, hir_9, -⟩ := hw_11
      refine va_iast hx hb hK hP hD hS 3 1 rfl rfl (vp_in_iff.mpr ⟨by omega, by omega⟩) dX2_gather_31 (fun H locs hP hD hS => ?_)
      obtain ⟨f_12, ef_12⟩ : ∃ g : Nat → Int32, g = upd g12_r0_3 (y12_2 : Int32).toNatClampNeg r_9 := ⟨_, rfl⟩
      have hf_12 : zr f_12 (-1) 13 := zr_upd ef_12 hg12_r0_3 (by omega)
      have hP : va_P (dC, dI) vwCl [(h0, .inr (2, [.int y12_h0_0, .int v0_1, .int y12_h0_2, .ref r0_3, .ref r0_4, .ref r0_5])), (h1, .inr (4, [.int v1_0, .int v1_1, .ref r1_2, .ref r1_3, .ref r1_4, .ref r1_5, .ref r1_6, .ref r1_7, .ref r1_8, .ref r1_9])), (r1_7, .inl (k2, 14, .inl f2)), (r0_3, .inl (k3, 14, .inl f_12)), (r0_5, .inl (k4, 14, .inl g12_r0_5)), (r0_4, .inl (k5, 14, .inl g12_r0_4)), (r1_4, .inl (k6, 14, .inl f6))] H := by rw [ef_12]; exact hP
      have hD : va_D A [(h0, .inr (2, [.int y12_h0_0, .int v0_1, .int y12_h0_2, .ref r0_3, .ref r0_4, .ref r0_5])), (h1, .inr (4, [.int v1_0, .int v1_1, .ref r1_2, .ref r1_3, .ref r1_4, .ref r1_5, .ref r1_6, .ref r1_7, .ref r1_8, .ref r1_9])), (r1_7, .inl (k2, 14, .inl f2)), (r0_3, .inl (k3, 14, .inl f_12)), (r0_5, .inl (k4, 14, .inl g12_r0_5)), (r0_4, .inl (k5, 14, .inl g12_r0_4)), (r1_4, .inl (k6, 14, .inl f6))] := by rw [ef_12]; exact hD
      refine lv_aload_n hx hb dX2_gather_32 rfl (lv_at hl 1 rfl) ?_
      refine va_get (D := (dC, dI)) (ci := 2) (v := .ref r0_3) (C := RX2) (T := TX2) (N := 6) hx hb hts zn_X2_gather_X2 hown hK hP 0 rfl rfl 3 (by decide) (hts (.fieldLink RX2 9 "ShortEnough$Groups" "of" "[I") zw_X2_gather_133) (fun _ h9 => h9) rfl dX2_gather_33 ?_
      refine lv_iload_n hx hb dX2_gather_36 rfl (lv_at hl 0 rfl) ?_
      refine va_iald hx hb hK hP 3 1 rfl rfl (vp_in_iff.mpr ⟨by omega, by omega⟩) dX2_gather_37 ?_
      refine W.eq (g2 := F0 m 38 ls [.int r_9]) (by rw [zu_same ef_12]) ?_
      refine lv_iconst (v := (-1)) hx hb dX2_gather_38 (by decide +kernel) ?_
      refine lv_icmp_ne (tgt := 82) hx hb dX2_gather_39 (by decide) (fun c_13 => ?_) (fun c_13 => ?_)
      · have oc_13 := zk_ne rfl (by decide +kernel : ((-1) : Int32).toInt = -1) c_13
        refine lv_aload_n hx hb dX2_gather_82 rfl (lv_at hl 1 rfl) ?_
        refine lv_aload_n hx hb dX2_gather_83 rfl (lv_at hl 1 rfl) ?_
        refine va_get (D := (dC, dI)) (ci := 2) (v := .ref r0_3) (C := RX2) (T := TX2) (N := 6) hx hb hts zn_X2_gather_X2 hown hK hP 0 rfl rfl 3 (by decide) (hts (.fieldLink RX2 9 "ShortEnough$Groups" "of" "[I") zw_X2_gather_133) (fun _ h9 => h9) rfl dX2_gather_84 ?_
        refine lv_iload_n hx hb dX2_gather_87 rfl (lv_at hl 0 rfl) ?_
        refine va_iald hx hb hK hP 3 1 rfl rfl (vp_in_iff.mpr ⟨by omega, by omega⟩) dX2_gather_88 ?_
        refine W.eq (g2 := F0 m 89 ls [.int r_9, .ref h0]) (by rw [zu_same ef_12]) ?_
        refine lv_aload_n hx hb dX2_gather_89 rfl (lv_at hl 2 rfl) ?_
        refine va_get (D := (dC, dI)) (ci := 4) (v := .ref r1_4) (C := RX4) (T := TX4) (N := 10) hx hb hts zn_X2_gather_X4 hown hK hP 1 rfl rfl 4 (by decide) (hts (.fieldLink RX2 36 "ShortEnough$Numbers" "fixedAs" "[I") zw_X2_gather_136) (fun _ h9 => h9) rfl dX2_gather_90 ?_
        refine lv_iload_n hx hb dX2_gather_93 rfl (lv_at hl 0 rfl) ?_
        refine va_iald hx hb hK hP 6 4 rfl rfl (vp_in_iff.mpr ⟨by omega, by omega⟩) dX2_gather_94 ?_
        refine lv_topi (fun x_14 ex_14 => ?_)
        have hPc := hP.sub (ws' := [(h0, .inr (2, [.int y12_h0_0, .int v0_1, .int y12_h0_2, .ref r0_3, .ref r0_4, .ref r0_5])), (r0_4, .inl (k5, 14, .inl g12_r0_4))]) [0, 5] rfl
        have hDc := hD.sub (ws' := [(h0, .inr (2, [.int y12_h0_0, .int v0_1, .int y12_h0_2, .ref r0_3, .ref r0_4, .ref r0_5])), (r0_4, .inl (k5, 14, .inl g12_r0_4))]) [0, 5] (by decide) rfl
        have hKc := hK.sub (tys' := [(k5, .int)]) [3] rfl
        have hFc := va_free (wc := [(h0, .inr (2, [.int y12_h0_0, .int v0_1, .int y12_h0_2, .ref r0_3, .ref r0_4, .ref r0_5])), (r0_4, .inl (k5, 14, .inl g12_r0_4))]) hD hS hA [0, 5] rfl
        refine va_callv (va_runV (As := [.int r_9, .int x_14]) (rest := []) ⟨hx, hb, hml, hown, hts⟩ (zs_X2_fix l dC dI h0 r_9 x_14 y12_h0_0 v0_1 y12_h0_2 r0_3 r0_4 r0_5 k5 g12_r0_4 (by omega) (by omega) (by omega) H.size) (cwV 2 hts gX2_gather_X2_fix rfl rfl rfl (by decide +kernel) ⟨Nat.le_of_ble_eq_true rfl, Nat.le_of_ble_eq_true rfl⟩) ⟨fun a U g mk q => by obtain ⟨q0, q1, qP, qK, qD⟩ := q; exact ⟨q0, q1, qP, va_K.moved (u := U) (U := U.calling g mk a) (Vm.Alike.refl U.vm) qK, qD⟩, va_recv hKc hPc (ci := 2) (q0 := 0) rfl rfl, fun U hU hW => ⟨rfl, by rw [hU], by rw [hU]; exact hPc, va_K.moved hW.alike hKc, hDc.weaken (fun _ _ _ _ => trivial)⟩⟩ rfl rfl hl.1 rfl (lv_room (Nat.le_of_ble_eq_true rfl)) dX2_gather_95 ⟨Nat.le_of_ble_eq_true rfl, Nat.le_of_ble_eq_true rfl⟩) hS (fun q _ h => hFc q h) hFc (fun u_16 t H1 locs ht hvm hw_17 hB hz1 hk1 hS => ?_)
        obtain ⟨hP1, hK1, hD1⟩ := hB
        rw [ht] at hP1
        have hK1 := va_K.moved hvm.symm hK1
        obtain ⟨hP, hD⟩ := va_join (wr := [(h1, .inr (4, [.int v1_0, .int v1_1, .ref r1_2, .ref r1_3, .ref r1_4, .ref r1_5, .ref r1_6, .ref r1_7, .ref r1_8, .ref r1_9])), (r1_7, .inl (k2, 14, .inl f2)), (r0_3, .inl (k3, 14, .inl f_12)), (r0_5, .inl (k4, 14, .inl g12_r0_5)), (r1_4, .inl (k6, 14, .inl f6))]) (w1 := [(h0, .inr (2, [.int y12_h0_0, .int v0_1, .int (u_16.1 0), .ref r0_3, .ref r0_4, .ref r0_5])), (r0_4, .inl (k5, 14, .inl (u_16.2.1 0)))]) hP hD [0, 5] [1, 2, 3, 4, 6] rfl rfl (by decide) (by decide) hk1 hFc hP1 hD1
        have hK := hK
        generalize H1 = H at hP hS ⊢
        have hP := hP.sub (ws' := [(h0, .inr (2, [.int y12_h0_0, .int v0_1, .int (u_16.1 0), .ref r0_3, .ref r0_4, .ref r0_5])), (h1, .inr (4, [.int v1_0, .int v1_1, .ref r1_2, .ref r1_3, .ref r1_4, .ref r1_5, .ref r1_6, .ref r1_7, .ref r1_8, .ref r1_9])), (r1_7, .inl (k2, 14, .inl f2)), (r0_3, .inl (k3, 14, .inl f_12)), (r0_5, .inl (k4, 14, .inl g12_r0_5)), (r0_4, .inl (k5, 14, .inl (u_16.2.1 0))), (r1_4, .inl (k6, 14, .inl f6))]) [5, 0, 1, 2, 3, 6, 4] rfl
        have hD := hD.sub (ws' := [(h0, .inr (2, [.int y12_h0_0, .int v0_1, .int (u_16.1 0), .ref r0_3, .ref r0_4, .ref r0_5])), (h1, .inr (4, [.int v1_0, .int v1_1, .ref r1_2, .ref r1_3, .ref r1_4, .ref r1_5, .ref r1_6, .ref r1_7, .ref r1_8, .ref r1_9])), (r1_7, .inl (k2, 14, .inl f2)), (r0_3, .inl (k3, 14, .inl f_12)), (r0_5, .inl (k4, 14, .inl g12_r0_5)), (r0_4, .inl (k5, 14, .inl (u_16.2.1 0))), (r1_4, .inl (k6, 14, .inl f6))]) [5, 0, 1, 2, 3, 6, 4] (by decide) rfl
        have hP : va_P (dC, dI) vwCl [(h0, .inr (2, [.int y12_h0_0, .int v0_1, .int (u_16.1 0), .ref r0_3, .ref r0_4, .ref r0_5])), (h1, .inr (4, [.int v1_0, .int v1_1, .ref r1_2, .ref r1_3, .ref r1_4, .ref r1_5, .ref r1_6, .ref r1_7, .ref r1_8, .ref r1_9])), (r1_7, .inl (k2, 14, .inl f2)), (r0_3, .inl (k3, 14, .inl f_12)), (r0_5, .inl (k4, 14, .inl g12_r0_5)), (r0_4, .inl (k5, 14, .inl (u_16.2.1 0))), (r1_4, .inl (k6, 14, .inl f6))] H := hP
        have hD : va_D A [(h0, .inr (2, [.int y12_h0_0, .int v0_1, .int (u_16.1 0), .ref r0_3, .ref r0_4, .ref r0_5])), (h1, .inr (4, [.int v1_0, .int v1_1, .ref r1_2, .ref r1_3, .ref r1_4, .ref r1_5, .ref r1_6, .ref r1_7, .ref r1_8, .ref r1_9])), (r1_7, .inl (k2, 14, .inl f2)), (r0_3, .inl (k3, 14, .inl f_12)), (r0_5, .inl (k4, 14, .inl g12_r0_5)), (r0_4, .inl (k5, 14, .inl (u_16.2.1 0))), (r1_4, .inl (k6, 14, .inl f6))] := hD
        obtain ⟨hmr_15_0, -⟩ := hw_17
        obtain ⟨x_18, ex_18⟩ : ∃ y : Int32, y = y12_2 + 1 := ⟨_, rfl⟩
        refine lv_iinc (v := x_18) (lv' := [(2, .int x_18), (0, .ref h0), (1, .ref h1)]) hx hb dX2_gather_98 hl (k := 0) rfl (by rw [ex_18]; rfl) (by decide) rfl (fun ls hl => ?_)
        have hx_18 := zo_add ex_18 rfl (by decide +kernel : (1 : Int32).toInt = 1) (by omega)
        refine lv_goto (tgt := 12) hx hb dX2_gather_101 (by decide) ?_
        exact ih12  f_12 (u_16.2.1 0) g12_r0_5 x_18 y12_h0_0 (u_16.1 0) H locs ls (by omega) (by omega) (by omega) (by omega) (by omega) (by omega) (by omega) (by omega) (by omega) (by omega) (by omega) hf_12  (by omega) hP hD hS (lv_sub hl [0, 1, 2] rfl)
      have oc_13 := zk_eq rfl (by decide +kernel : ((-1) : Int32).toInt = -1) c_13
      refine lv_aload_n hx hb dX2_gather_42 rfl (lv_at hl 1 rfl) ?_
      refine va_get (D := (dC, dI)) (ci := 2) (v := .ref r0_3) (C := RX2) (T := TX2) (N := 6) hx hb hts zn_X2_gather_X2 hown hK hP 0 rfl rfl 3 (by decide) (hts (.fieldLink RX2 9 "ShortEnough$Groups" "of" "[I") zw_X2_gather_133) (fun _ h9 => h9) rfl dX2_gather_43 ?_
      refine lv_iload_n hx hb dX2_gather_46 rfl (lv_at hl 0 rfl) ?_
      refine lv_aload_n hx hb dX2_gather_47 rfl (lv_at hl 1 rfl) ?_
      refine va_get (D := (dC, dI)) (ci := 2) (v := .int y12_h0_0) (C := RX2) (T := TX2) (N := 6) hx hb hts zn_X2_gather_X2 hown hK hP 0 rfl rfl 0 (by decide) (hts (.fieldLink RX2 21 "ShortEnough$Groups" "count" "I") zw_X2_gather_128) (fun _ h9 => h9) rfl dX2_gather_48 ?_
      refine va_iast hx hb hK hP hD hS 3 1 rfl rfl (vp_in_iff.mpr ⟨by omega, by omega⟩) dX2_gather_51 (fun H locs hP hD hS => ?_)
      obtain ⟨f_19, ef_19⟩ : ∃ g : Nat → Int32, g = upd f_12 (y12_2 : Int32).toNatClampNeg y12_h0_0 := ⟨_, rfl⟩
      have hf_19 : zr f_19 (-1) 13 := zr_upd ef_19 hf_12 (by omega)
      have hP : va_P (dC, dI) vwCl [(h0, .inr (2, [.int y12_h0_0, .int v0_1, .int y12_h0_2, .ref r0_3, .ref r0_4, .ref r0_5])), (h1, .inr (4, [.int v1_0, .int v1_1, .ref r1_2, .ref r1_3, .ref r1_4, .ref r1_5, .ref r1_6, .ref r1_7, .ref r1_8, .ref r1_9])), (r1_7, .inl (k2, 14, .inl f2)), (r0_3, .inl (k3, 14, .inl f_19)), (r0_5, .inl (k4, 14, .inl g12_r0_5)), (r0_4, .inl (k5, 14, .inl g12_r0_4)), (r1_4, .inl (k6, 14, .inl f6))] H := by rw [ef_19]; exact hP
      have hD : va_D A [(h0, .inr (2, [.int y12_h0_0, .int v0_1, .int y12_h0_2, .ref r0_3, .ref r0_4, .ref r0_5])), (h1, .inr (4, [.int v1_0, .int v1_1, .ref r1_2, .ref r1_3, .ref r1_4, .ref r1_5, .ref r1_6, .ref r1_7, .ref r1_8, .ref r1_9])), (r1_7, .inl (k2, 14, .inl f2)), (r0_3, .inl (k3, 14, .inl f_19)), (r0_5, .inl (k4, 14, .inl g12_r0_5)), (r0_4, .inl (k5, 14, .inl g12_r0_4)), (r1_4, .inl (k6, 14, .inl f6))] := by rw [ef_19]; exact hD
      refine lv_aload_n hx hb dX2_gather_52 rfl (lv_at hl 1 rfl) ?_
      refine va_get (D := (dC, dI)) (ci := 2) (v := .ref r0_5) (C := RX2) (T := TX2) (N := 6) hx hb hts zn_X2_gather_X2 hown hK hP 0 rfl rfl 5 (by decide) (hts (.fieldLink RX2 18 "ShortEnough$Groups" "leader" "[I") zw_X2_gather_134) (fun _ h9 => h9) rfl dX2_gather_53 ?_
      refine lv_aload_n hx hb dX2_gather_56 rfl (lv_at hl 1 rfl) ?_
      refine va_get (D := (dC, dI)) (ci := 2) (v := .int y12_h0_0) (C := RX2) (T := TX2) (N := 6) hx hb hts zn_X2_gather_X2 hown hK hP 0 rfl rfl 0 (by decide) (hts (.fieldLink RX2 21 "ShortEnough$Groups" "count" "I") zw_X2_gather_128) (fun _ h9 => h9) rfl dX2_gather_57 ?_
      refine lv_iload_n hx hb dX2_gather_60 rfl (lv_at hl 0 rfl) ?_
      refine va_iast hx hb hK hP hD hS 4 2 rfl rfl (vp_in_iff.mpr ⟨by omega, by omega⟩) dX2_gather_61 (fun H locs hP hD hS => ?_)
      obtain ⟨f_20, ef_20⟩ : ∃ g : Nat → Int32, g = upd g12_r0_5 (y12_h0_0 : Int32).toNatClampNeg y12_2 := ⟨_, rfl⟩
      have hP : va_P (dC, dI) vwCl [(h0, .inr (2, [.int y12_h0_0, .int v0_1, .int y12_h0_2, .ref r0_3, .ref r0_4, .ref r0_5])), (h1, .inr (4, [.int v1_0, .int v1_1, .ref r1_2, .ref r1_3, .ref r1_4, .ref r1_5, .ref r1_6, .ref r1_7, .ref r1_8, .ref r1_9])), (r1_7, .inl (k2, 14, .inl f2)), (r0_3, .inl (k3, 14, .inl f_19)), (r0_5, .inl (k4, 14, .inl f_20)), (r0_4, .inl (k5, 14, .inl g12_r0_4)), (r1_4, .inl (k6, 14, .inl f6))] H := by rw [ef_20]; exact hP
      have hD : va_D A [(h0, .inr (2, [.int y12_h0_0, .int v0_1, .int y12_h0_2, .ref r0_3, .ref r0_4, .ref r0_5])), (h1, .inr (4, [.int v1_0, .int v1_1, .ref r1_2, .ref r1_3, .ref r1_4, .ref r1_5, .ref r1_6, .ref r1_7, .ref r1_8, .ref r1_9])), (r1_7, .inl (k2, 14, .inl f2)), (r0_3, .inl (k3, 14, .inl f_19)), (r0_5, .inl (k4, 14, .inl f_20)), (r0_4, .inl (k5, 14, .inl g12_r0_4)), (r1_4, .inl (k6, 14, .inl f6))] := by rw [ef_20]; exact hD
      refine lv_aload_n hx hb dX2_gather_62 rfl (lv_at hl 1 rfl) ?_
      refine va_get (D := (dC, dI)) (ci := 2) (v := .ref r0_4) (C := RX2) (T := TX2) (N := 6) hx hb hts zn_X2_gather_X2 hown hK hP 0 rfl rfl 4 (by decide) (hts (.fieldLink RX2 15 "ShortEnough$Groups" "fixedAs" "[I") zw_X2_gather_135) (fun _ h9 => h9) rfl dX2_gather_63 ?_
      refine lv_aload_n hx hb dX2_gather_66 rfl (lv_at hl 1 rfl) ?_
      refine va_get (D := (dC, dI)) (ci := 2) (v := .int y12_h0_0) (C := RX2) (T := TX2) (N := 6) hx hb hts zn_X2_gather_X2 hown hK hP 0 rfl rfl 0 (by decide) (hts (.fieldLink RX2 21 "ShortEnough$Groups" "count" "I") zw_X2_gather_128) (fun _ h9 => h9) rfl dX2_gather_67 ?_
      refine lv_iconst (v := (-1)) hx hb dX2_gather_70 (by decide +kernel) ?_
      refine va_iast hx hb hK hP hD hS 5 3 rfl rfl (vp_in_iff.mpr ⟨by omega, by omega⟩) dX2_gather_71 (fun H locs hP hD hS => ?_)
      obtain ⟨f_21, ef_21⟩ : ∃ g : Nat → Int32, g = upd g12_r0_4 (y12_h0_0 : Int32).toNatClampNeg (-1) := ⟨_, rfl⟩
      have hP : va_P (dC, dI) vwCl [(h0, .inr (2, [.int y12_h0_0, .int v0_1, .int y12_h0_2, .ref r0_3, .ref r0_4, .ref r0_5])), (h1, .inr (4, [.int v1_0, .int v1_1, .ref r1_2, .ref r1_3, .ref r1_4, .ref r1_5, .ref r1_6, .ref r1_7, .ref r1_8, .ref r1_9])), (r1_7, .inl (k2, 14, .inl f2)), (r0_3, .inl (k3, 14, .inl f_19)), (r0_5, .inl (k4, 14, .inl f_20)), (r0_4, .inl (k5, 14, .inl f_21)), (r1_4, .inl (k6, 14, .inl f6))] H := by rw [ef_21]; exact hP
      have hD : va_D A [(h0, .inr (2, [.int y12_h0_0, .int v0_1, .int y12_h0_2, .ref r0_3, .ref r0_4, .ref r0_5])), (h1, .inr (4, [.int v1_0, .int v1_1, .ref r1_2, .ref r1_3, .ref r1_4, .ref r1_5, .ref r1_6, .ref r1_7, .ref r1_8, .ref r1_9])), (r1_7, .inl (k2, 14, .inl f2)), (r0_3, .inl (k3, 14, .inl f_19)), (r0_5, .inl (k4, 14, .inl f_20)), (r0_4, .inl (k5, 14, .inl f_21)), (r1_4, .inl (k6, 14, .inl f6))] := by rw [ef_21]; exact hD
      refine lv_aload_n hx hb dX2_gather_72 rfl (lv_at hl 1 rfl) ?_
      refine lv_dup hx hb dX2_gather_73 rfl ?_
      refine va_get (D := (dC, dI)) (ci := 2) (v := .int y12_h0_0) (C := RX2) (T := TX2) (N := 6) hx hb hts zn_X2_gather_X2 hown hK hP 0 rfl rfl 0 (by decide) (hts (.fieldLink RX2 21 "ShortEnough$Groups" "count" "I") zw_X2_gather_128) (fun _ h9 => h9) rfl dX2_gather_74 ?_
      refine lv_iconst (v := 1) hx hb dX2_gather_77 (by decide +kernel) ?_
      refine lv_iadd hx hb dX2_gather_78 ?_
      refine lv_topi (fun x_22 ex_22 => ?_)
      have hx_22 := zo_add ex_22 rfl (by decide +kernel : (1 : Int32).toInt = 1) (by omega)
      refine va_put (D := (dC, dI)) (ci := 2) (v := .int x_22) (ty := .int) (C := RX2) (T := TX2) (N := 6) hx hb hts zn_X2_gather_X2 tyX2 tyX2_ok nmX2 hown hK hP hD hS 0 rfl rfl 0 (by decide) (hts (.fieldLink RX2 21 "ShortEnough$Groups" "count" "I") zw_X2_gather_128) (fun _ h9 => h9) rfl (by decide +kernel) rfl rfl (Nat.le_of_ble_eq_true rfl) dX2_gather_79 (fun H locs hP hD hS => ?_)
      have hP : va_P (dC, dI) vwCl [(h0, .inr (2, [.int x_22, .int v0_1, .int y12_h0_2, .ref r0_3, .ref r0_4, .ref r0_5])), (h1, .inr (4, [.int v1_0, .int v1_1, .ref r1_2, .ref r1_3, .ref r1_4, .ref r1_5, .ref r1_6, .ref r1_7, .ref r1_8, .ref r1_9])), (r1_7, .inl (k2, 14, .inl f2)), (r0_3, .inl (k3, 14, .inl f_19)), (r0_5, .inl (k4, 14, .inl f_20)), (r0_4, .inl (k5, 14, .inl f_21)), (r1_4, .inl (k6, 14, .inl f6))] H := hP
      have hD : va_D A [(h0, .inr (2, [.int x_22, .int v0_1, .int y12_h0_2, .ref r0_3, .ref r0_4, .ref r0_5])), (h1, .inr (4, [.int v1_0, .int v1_1, .ref r1_2, .ref r1_3, .ref r1_4, .ref r1_5, .ref r1_6, .ref r1_7, .ref r1_8, .ref r1_9])), (r1_7, .inl (k2, 14, .inl f2)), (r0_3, .inl (k3, 14, .inl f_19)), (r0_5, .inl (k4, 14, .inl f_20)), (r0_4, .inl (k5, 14, .inl f_21)), (r1_4, .inl (k6, 14, .inl f6))] := hD
      refine lv_aload_n hx hb dX2_gather_82 rfl (lv_at hl 1 rfl) ?_
      refine lv_aload_n hx hb dX2_gather_83 rfl (lv_at hl 1 rfl) ?_
      refine va_get (D := (dC, dI)) (ci := 2) (v := .ref r0_3) (C := RX2) (T := TX2) (N := 6) hx hb hts zn_X2_gather_X2 hown hK hP 0 rfl rfl 3 (by decide) (hts (.fieldLink RX2 9 "ShortEnough$Groups" "of" "[I") zw_X2_gather_133) (fun _ h9 => h9) rfl dX2_gather_84 ?_
      refine lv_iload_n hx hb dX2_gather_87 rfl (lv_at hl 0 rfl) ?_
      refine va_iald hx hb hK hP 3 1 rfl rfl (vp_in_iff.mpr ⟨by omega, by omega⟩) dX2_gather_88 ?_
      refine W.eq (g2 := F0 m 89 ls [.int y12_h0_0, .ref h0]) (by rw [zu_same ef_19]) ?_
      refine lv_aload_n hx hb dX2_gather_89 rfl (lv_at hl 2 rfl) ?_
      refine va_get (D := (dC, dI)) (ci := 4) (v := .ref r1_4) (C := RX4) (T := TX4) (N := 10) hx hb hts zn_X2_gather_X4 hown hK hP 1 rfl rfl 4 (by decide) (hts (.fieldLink RX2 36 "ShortEnough$Numbers" "fixedAs" "[I") zw_X2_gather_136) (fun _ h9 => h9) rfl dX2_gather_90 ?_
      refine lv_iload_n hx hb dX2_gather_93 rfl (lv_at hl 0 rfl) ?_
      refine va_iald hx hb hK hP 6 4 rfl rfl (vp_in_iff.mpr ⟨by omega, by omega⟩) dX2_gather_94 ?_
      refine lv_topi (fun x_23 ex_23 => ?_)
      have hPc := hP.sub (ws' := [(h0, .inr (2, [.int x_22, .int v0_1, .int y12_h0_2, .ref r0_3, .ref r0_4, .ref r0_5])), (r0_4, .inl (k5, 14, .inl f_21))]) [0, 5] rfl
      have hDc := hD.sub (ws' := [(h0, .inr (2, [.int x_22, .int v0_1, .int y12_h0_2, .ref r0_3, .ref r0_4, .ref r0_5])), (r0_4, .inl (k5, 14, .inl f_21))]) [0, 5] (by decide) rfl
      have hKc := hK.sub (tys' := [(k5, .int)]) [3] rfl
      have hFc := va_free (wc := [(h0, .inr (2, [.int x_22, .int v0_1, .int y12_h0_2, .ref r0_3, .ref r0_4, .ref r0_5])), (r0_4, .inl (k5, 14, .inl f_21))]) hD hS hA [0, 5] rfl
      refine va_callv (va_runV (As := [.int y12_h0_0, .int x_23]) (rest := []) ⟨hx, hb, hml, hown, hts⟩ (zs_X2_fix l dC dI h0 y12_h0_0 x_23 x_22 v0_1 y12_h0_2 r0_3 r0_4 r0_5 k5 f_21 (by omega) (by omega) (by omega) H.size) (cwV 2 hts gX2_gather_X2_fix rfl rfl rfl (by decide +kernel) ⟨Nat.le_of_ble_eq_true rfl, Nat.le_of_ble_eq_true rfl⟩) ⟨fun a U g mk q => by obtain ⟨q0, q1, qP, qK, qD⟩ := q; exact ⟨q0, q1, qP, va_K.moved (u := U) (U := U.calling g mk a) (Vm.Alike.refl U.vm) qK, qD⟩, va_recv hKc hPc (ci := 2) (q0 := 0) rfl rfl, fun U hU hW => ⟨rfl, by rw [hU], by rw [hU]; exact hPc, va_K.moved hW.alike hKc, hDc.weaken (fun _ _ _ _ => trivial)⟩⟩ rfl rfl hl.1 rfl (lv_room (Nat.le_of_ble_eq_true rfl)) dX2_gather_95 ⟨Nat.le_of_ble_eq_true rfl, Nat.le_of_ble_eq_true rfl⟩) hS (fun q _ h => hFc q h) hFc (fun u_25 t H1 locs ht hvm hw_26 hB hz1 hk1 hS => ?_)
      obtain ⟨hP1, hK1, hD1⟩ := hB
      rw [ht] at hP1
      have hK1 := va_K.moved hvm.symm hK1
      obtain ⟨hP, hD⟩ := va_join (wr := [(h1, .inr (4, [.int v1_0, .int v1_1, .ref r1_2, .ref r1_3, .ref r1_4, .ref r1_5, .ref r1_6, .ref r1_7, .ref r1_8, .ref r1_9])), (r1_7, .inl (k2, 14, .inl f2)), (r0_3, .inl (k3, 14, .inl f_19)), (r0_5, .inl (k4, 14, .inl f_20)), (r1_4, .inl (k6, 14, .inl f6))]) (w1 := [(h0, .inr (2, [.int x_22, .int v0_1, .int (u_25.1 0), .ref r0_3, .ref r0_4, .ref r0_5])), (r0_4, .inl (k5, 14, .inl (u_25.2.1 0)))]) hP hD [0, 5] [1, 2, 3, 4, 6] rfl rfl (by decide) (by decide) hk1 hFc hP1 hD1
      have hK := hK
      generalize H1 = H at hP hS ⊢
      have hP := hP.sub (ws' := [(h0, .inr (2, [.int x_22, .int v0_1, .int (u_25.1 0), .ref r0_3, .ref r0_4, .ref r0_5])), (h1, .inr (4, [.int v1_0, .int v1_1, .ref r1_2, .ref r1_3, .ref r1_4, .ref r1_5, .ref r1_6, .ref r1_7, .ref r1_8, .ref r1_9])), (r1_7, .inl (k2, 14, .inl f2)), (r0_3, .inl (k3, 14, .inl f_19)), (r0_5, .inl (k4, 14, .inl f_20)), (r0_4, .inl (k5, 14, .inl (u_25.2.1 0))), (r1_4, .inl (k6, 14, .inl f6))]) [5, 0, 1, 2, 3, 6, 4] rfl
      have hD := hD.sub (ws' := [(h0, .inr (2, [.int x_22, .int v0_1, .int (u_25.1 0), .ref r0_3, .ref r0_4, .ref r0_5])), (h1, .inr (4, [.int v1_0, .int v1_1, .ref r1_2, .ref r1_3, .ref r1_4, .ref r1_5, .ref r1_6, .ref r1_7, .ref r1_8, .ref r1_9])), (r1_7, .inl (k2, 14, .inl f2)), (r0_3, .inl (k3, 14, .inl f_19)), (r0_5, .inl (k4, 14, .inl f_20)), (r0_4, .inl (k5, 14, .inl (u_25.2.1 0))), (r1_4, .inl (k6, 14, .inl f6))]) [5, 0, 1, 2, 3, 6, 4] (by decide) rfl
      have hP : va_P (dC, dI) vwCl [(h0, .inr (2, [.int x_22, .int v0_1, .int (u_25.1 0), .ref r0_3, .ref r0_4, .ref r0_5])), (h1, .inr (4, [.int v1_0, .int v1_1, .ref r1_2, .ref r1_3, .ref r1_4, .ref r1_5, .ref r1_6, .ref r1_7, .ref r1_8, .ref r1_9])), (r1_7, .inl (k2, 14, .inl f2)), (r0_3, .inl (k3, 14, .inl f_19)), (r0_5, .inl (k4, 14, .inl f_20)), (r0_4, .inl (k5, 14, .inl (u_25.2.1 0))), (r1_4, .inl (k6, 14, .inl f6))] H := hP
      have hD : va_D A [(h0, .inr (2, [.int x_22, .int v0_1, .int (u_25.1 0), .ref r0_3, .ref r0_4, .ref r0_5])), (h1, .inr (4, [.int v1_0, .int v1_1, .ref r1_2, .ref r1_3, .ref r1_4, .ref r1_5, .ref r1_6, .ref r1_7, .ref r1_8, .ref r1_9])), (r1_7, .inl (k2, 14, .inl f2)), (r0_3, .inl (k3, 14, .inl f_19)), (r0_5, .inl (k4, 14, .inl f_20)), (r0_4, .inl (k5, 14, .inl (u_25.2.1 0))), (r1_4, .inl (k6, 14, .inl f6))] := hD
      obtain ⟨hmr_24_0, -⟩ := hw_26
      obtain ⟨x_27, ex_27⟩ : ∃ y : Int32, y = y12_2 + 1 := ⟨_, rfl⟩
      refine lv_iinc (v := x_27) (lv' := [(2, .int x_27), (0, .ref h0), (1, .ref h1)]) hx hb dX2_gather_98 hl (k := 0) rfl (by rw [ex_27]; rfl) (by decide) rfl (fun ls hl => ?_)
      have hx_27 := zo_add ex_27 rfl (by decide +kernel : (1 : Int32).toInt = 1) (by omega)
      refine lv_goto (tgt := 12) hx hb dX2_gather_101 (by decide) ?_
      exact ih12  f_19 (u_25.2.1 0) f_20 x_27 x_22 (u_25.1 0) H locs ls (by omega) (by omega) (by omega) (by omega) (by omega) (by omega) (by omega) (by omega) (by omega) (by omega) (by omega) hf_19  (by omega) hP hD hS (lv_sub hl [0, 1, 2] rfl)
  have kk0 : (0 : Int32).toInt = 0 := (by decide +kernel)
  exact lp12 ((15 - (0 : Int32).toInt).toNat + 1) f3 f5 f4 0 0 0 H locs ls (by omega) (by omega) (by omega) (by omega) (by omega) (by omega) (by omega) (by omega) (by omega) (by omega) (by omega) hf3  (by omega) hP hD hS (lv_sub hl [0, 1, 2] rfl)
set_option maxHeartbeats 4000000 in
set_option maxRecDepth 100000 in
theorem zs_X11_refuse (l : Launch) (dC : Nat → ClassId) (dI : Nat → Nat → Nat) (h0 : Nat) (p1 : Int32) (r0_0 : Nat) (v0_1 : Int32) (r0_2 : Nat) (r0_3 : Nat) (r0_4 : Nat) (r0_5 : Nat) (r0_6 : Nat) (r0_7 : Nat) (r0_8 : Nat) (r0_9 : Nat) (r0_10 : Nat) (r0_11 : Nat) (r0_12 : Nat) (r0_13 : Nat) (r0_14 : Nat) (v0_15 : Int32) (k1 : Nat) (f1 : Nat → Int32) (hq_v0_1 : (0 : Int) ≤ v0_1.toInt ∧ v0_1.toInt ≤ 1200) (sz : Nat) : Met l yX11_refuse wsX11_refuse ({ frames := 0, cells := 0, slots := 0, locals := 0 }) (va_Pc [.ref h0, .int p1] (fun U => U.heap.size = sz ∧ va_P (dC, dI) vwCl [(h0, .inr (11, [.ref r0_0, .int v0_1, .ref r0_2, .ref r0_3, .ref r0_4, .ref r0_5, .ref r0_6, .ref r0_7, .ref r0_8, .ref r0_9, .ref r0_10, .ref r0_11, .ref r0_12, .ref r0_13, .ref r0_14, .int v0_15])), (r0_2, .inl (k1, 5, .inl f1))] U.heap ∧ va_K (dC, dI) vwCl [(k1, .int)] U ∧ va_D (fun _ => True) [(h0, .inr (11, [.ref r0_0, .int v0_1, .ref r0_2, .ref r0_3, .ref r0_4, .ref r0_5, .ref r0_6, .ref r0_7, .ref r0_8, .ref r0_9, .ref r0_10, .ref r0_11, .ref r0_12, .ref r0_13, .ref r0_14, .int v0_15])), (r0_2, .inl (k1, 5, .inl f1))])) (va_Qi (fun (r : Int32) (u : zV) => ((-1 : Int) ≤ r.toInt ∧ r.toInt ≤ -1) ∧ True) (fun u t => va_P (dC, dI) vwCl [(h0, .inr (11, [.ref r0_0, .int v0_1, .ref r0_2, .ref r0_3, .ref r0_4, .ref r0_5, .ref r0_6, .ref r0_7, .ref r0_8, .ref r0_9, .ref r0_10, .ref r0_11, .ref r0_12, .ref r0_13, .ref r0_14, .int v0_15])), (r0_2, .inl (k1, 5, .inl (u.2.1 0)))] t.heap ∧ va_K (dC, dI) vwCl [(k1, .int)] t ∧ va_D (va_A [(h0, .inr (11, [.ref r0_0, .int v0_1, .ref r0_2, .ref r0_3, .ref r0_4, .ref r0_5, .ref r0_6, .ref r0_7, .ref r0_8, .ref r0_9, .ref r0_10, .ref r0_11, .ref r0_12, .ref r0_13, .ref r0_14, .int v0_15])), (r0_2, .inl (k1, 5, .inl f1))] sz) [(h0, .inr (11, [.ref r0_0, .int v0_1, .ref r0_2, .ref r0_3, .ref r0_4, .ref r0_5, .ref r0_6, .ref r0_7, .ref r0_8, .ref r0_9, .ref r0_10, .ref r0_11, .ref r0_12, .ref r0_13, .ref r0_14, .int v0_15])), (r0_2, .inl (k1, 5, .inl (u.2.1 0)))]) (va_A [(h0, .inr (11, [.ref r0_0, .int v0_1, .ref r0_2, .ref r0_3, .ref r0_4, .ref r0_5, .ref r0_6, .ref r0_7, .ref r0_8, .ref r0_9, .ref r0_10, .ref r0_11, .ref r0_12, .ref r0_13, .ref r0_14, .int v0_15])), (r0_2, .inl (k1, 5, .inl f1))] sz)) 0 0 (va_A [(h0, .inr (11, [.ref r0_0, .int v0_1, .ref r0_2, .ref r0_3, .ref r0_4, .ref r0_5, .ref r0_6, .ref r0_7, .ref r0_8, .ref r0_9, .ref r0_10, .ref r0_11, .ref r0_12, .ref r0_13, .ref r0_14, .int v0_15])), (r0_2, .inl (k1, 5, .inl f1))] sz) := by
  refine Met.ofW (cc := cX11_refuse) (maxL := 2) (ret := (some .int)) (by decide +kernel) rfl ?_
  intro p e s m args below meth c s₁ B hml hv
  obtain ⟨rfl, hsz, hP, hK, hD0⟩ := hv
  have hx := B.exec
  have hb := B.bytes
  have hr := B.returns
  have hts := atoms_spec (ws := wsX11_refuse) B.pre
  have hown : s.vm.findClass RX11 = some m.cls := findClass_of_methodNamed B.named
  have hlocks := B.notSynchronized
  subst hsz
  have hD := hD0.self (sz := s.heap.size)
  generalize hAe : va_A [(h0, .inr (11, [.ref r0_0, .int v0_1, .ref r0_2, .ref r0_3, .ref r0_4, .ref r0_5, .ref r0_6, .ref r0_7, .ref r0_8, .ref r0_9, .ref r0_10, .ref r0_11, .ref r0_12, .ref r0_13, .ref r0_14, .int v0_15])), (r0_2, .inl (k1, 5, .inl f1))] s.heap.size = A at hD ⊢
  have hA : ∀ q : Nat, s.heap.size ≤ q → A q := fun q h => by rw [← hAe]; exact Or.inr h
  have hS : va_S A s.heap s.heap [] := va_S.rf
  have hP : va_P (dC, dI) vwCl [(h0, .inr (11, [.ref r0_0, .int v0_1, .ref r0_2, .ref r0_3, .ref r0_4, .ref r0_5, .ref r0_6, .ref r0_7, .ref r0_8, .ref r0_9, .ref r0_10, .ref r0_11, .ref r0_12, .ref r0_13, .ref r0_14, .int v0_15])), (r0_2, .inl (k1, 5, .inl f1))] s.heap := hP
  have hl := lv_entry ([.ref h0, .int p1]) (n := 2) (Nat.le_of_ble_eq_true rfl)
  rw [lg_entry_eq]
  generalize (lg_sl ([.ref h0, .int p1]) ++ List.replicate (2 - (lg_sl ([.ref h0, .int p1])).length) Slot.unset).toArray = ls at hl ⊢
  have hl : lv_has ls 2 [(0, .ref h0), (1, .int p1)] := hl
  generalize hQ : MQ below (va_Qi (fun (r : Int32) (u : zV) => ((-1 : Int) ≤ r.toInt ∧ r.toInt ≤ -1) ∧ True) (fun u t => va_P (dC, dI) vwCl [(h0, .inr (11, [.ref r0_0, .int v0_1, .ref r0_2, .ref r0_3, .ref r0_4, .ref r0_5, .ref r0_6, .ref r0_7, .ref r0_8, .ref r0_9, .ref r0_10, .ref r0_11, .ref r0_12, .ref r0_13, .ref r0_14, .int v0_15])), (r0_2, .inl (k1, 5, .inl (u.2.1 0)))] t.heap ∧ va_K (dC, dI) vwCl [(k1, .int)] t ∧ va_D A [(h0, .inr (11, [.ref r0_0, .int v0_1, .ref r0_2, .ref r0_3, .ref r0_4, .ref r0_5, .ref r0_6, .ref r0_7, .ref r0_8, .ref r0_9, .ref r0_10, .ref r0_11, .ref r0_12, .ref r0_13, .ref r0_14, .int v0_15])), (r0_2, .inl (k1, 5, .inl (u.2.1 0)))]) A) ([.ref h0, .int p1] : List Value).toArray s 0 0 A = Q
  refine lv_iload_n hx hb dX11_refuse_0 rfl (lv_at hl 1 rfl) ?_
  refine lv_if_lt (tgt := 19) hx hb dX11_refuse_1 (by decide) (fun c_1 => ?_) (fun c_1 => ?_)
  · have oc_1 := zk_lt rfl (by decide +kernel : (0 : Int32).toInt = 0) c_1
    refine lv_iconst (v := (-1)) hx hb dX11_refuse_19 (by decide +kernel) ?_
    have hP9 := hP.sub (ws' := [(h0, .inr (11, [.ref r0_0, .int v0_1, .ref r0_2, .ref r0_3, .ref r0_4, .ref r0_5, .ref r0_6, .ref r0_7, .ref r0_8, .ref r0_9, .ref r0_10, .ref r0_11, .ref r0_12, .ref r0_13, .ref r0_14, .int v0_15])), (r0_2, .inl (k1, 5, .inl f1))]) [0, 1] rfl
    have hD9 := hD.sub (ws' := [(h0, .inr (11, [.ref r0_0, .int v0_1, .ref r0_2, .ref r0_3, .ref r0_4, .ref r0_5, .ref r0_6, .ref r0_7, .ref r0_8, .ref r0_9, .ref r0_10, .ref r0_11, .ref r0_12, .ref r0_13, .ref r0_14, .int v0_15])), (r0_2, .inl (k1, 5, .inl f1))]) [0, 1] (by decide) rfl
    have hK9 := hK.sub (tys' := [(k1, .int)]) [0] rfl
    rw [← hQ]
    exact W.iret (v := (-1)) hx hb hr (fun t ht hW => ⟨⟨(-1), ((fun k => ([] : List Int32).getD k 0), (fun k => ([f1] : List (Nat → Int32)).getD k (fun _ => 0)), (fun k => ([] : List (Nat → Int64)).getD k (fun _ => 0))), rfl, ⟨(show (-1 : Int) ≤ ((-1) : Int32).toInt ∧ ((-1) : Int32).toInt ≤ -1 by decide +kernel), trivial⟩, by rw [ht]; exact hP9, va_K.moved hW.alike hK9, hD9⟩, hS.F ht⟩) hS.2.2 dX11_refuse_20
  have oc_1 := zk_nlt rfl (by decide +kernel : (0 : Int32).toInt = 0) c_1
  refine lv_iload_n hx hb dX11_refuse_4 rfl (lv_at hl 1 rfl) ?_
  refine lv_iconst (v := 5) hx hb dX11_refuse_5 (by decide +kernel) ?_
  refine lv_icmp_ge (tgt := 19) hx hb dX11_refuse_6 (by decide) (fun c_2 => ?_) (fun c_2 => ?_)
  · have oc_2 := zk_le (by decide +kernel : (5 : Int32).toInt = 5) rfl c_2
    refine lv_iconst (v := (-1)) hx hb dX11_refuse_19 (by decide +kernel) ?_
    have hP9 := hP.sub (ws' := [(h0, .inr (11, [.ref r0_0, .int v0_1, .ref r0_2, .ref r0_3, .ref r0_4, .ref r0_5, .ref r0_6, .ref r0_7, .ref r0_8, .ref r0_9, .ref r0_10, .ref r0_11, .ref r0_12, .ref r0_13, .ref r0_14, .int v0_15])), (r0_2, .inl (k1, 5, .inl f1))]) [0, 1] rfl
    have hD9 := hD.sub (ws' := [(h0, .inr (11, [.ref r0_0, .int v0_1, .ref r0_2, .ref r0_3, .ref r0_4, .ref r0_5, .ref r0_6, .ref r0_7, .ref r0_8, .ref r0_9, .ref r0_10, .ref r0_11, .ref r0_12, .ref r0_13, .ref r0_14, .int v0_15])), (r0_2, .inl (k1, 5, .inl f1))]) [0, 1] (by decide) rfl
    have hK9 := hK.sub (tys' := [(k1, .int)]) [0] rfl
    rw [← hQ]
    exact W.iret (v := (-1)) hx hb hr (fun t ht hW => ⟨⟨(-1), ((fun k => ([] : List Int32).getD k 0), (fun k => ([f1] : List (Nat → Int32)).getD k (fun _ => 0)), (fun k => ([] : List (Nat → Int64)).getD k (fun _ => 0))), rfl, ⟨(show (-1 : Int) ≤ ((-1) : Int32).toInt ∧ ((-1) : Int32).toInt ≤ -1 by decide +kernel), trivial⟩, by rw [ht]; exact hP9, va_K.moved hW.alike hK9, hD9⟩, hS.F ht⟩) hS.2.2 dX11_refuse_20
  have oc_2 := zk_nle (by decide +kernel : (5 : Int32).toInt = 5) rfl c_2
  refine lv_aload_n hx hb dX11_refuse_9 rfl (lv_at hl 0 rfl) ?_
  refine va_get (D := (dC, dI)) (ci := 11) (v := .ref r0_2) (C := RX11) (T := TX11) (N := 16) hx hb hts zn_X11_refuse_X11 hown hK hP 0 rfl rfl 2 (by decide) (hts (.fieldLink RX11 13 "ShortEnough" "refused" "[I") zw_X11_refuse_138) (fun _ h9 => h9) rfl dX11_refuse_10 ?_
  refine lv_iload_n hx hb dX11_refuse_13 rfl (lv_at hl 1 rfl) ?_
  refine lv_dup2_11 hx hb dX11_refuse_14 rfl rfl ?_
  refine va_iald hx hb hK hP 1 0 rfl rfl (vp_in_iff.mpr ⟨by omega, by omega⟩) dX11_refuse_15 ?_
  refine lv_topi (fun x_3 ex_3 => ?_)
  refine lv_iconst (v := 1) hx hb dX11_refuse_16 (by decide +kernel) ?_
  refine lv_iadd hx hb dX11_refuse_17 ?_
  refine lv_topi (fun x_4 ex_4 => ?_)
  refine va_iast hx hb hK hP hD hS 1 0 rfl rfl (vp_in_iff.mpr ⟨by omega, by omega⟩) dX11_refuse_18 (fun H locs hP hD hS => ?_)
  obtain ⟨f_5, ef_5⟩ : ∃ g : Nat → Int32, g = upd f1 (p1 : Int32).toNatClampNeg x_4 := ⟨_, rfl⟩
  have hP : va_P (dC, dI) vwCl [(h0, .inr (11, [.ref r0_0, .int v0_1, .ref r0_2, .ref r0_3, .ref r0_4, .ref r0_5, .ref r0_6, .ref r0_7, .ref r0_8, .ref r0_9, .ref r0_10, .ref r0_11, .ref r0_12, .ref r0_13, .ref r0_14, .int v0_15])), (r0_2, .inl (k1, 5, .inl f_5))] H := by rw [ef_5]; exact hP
  have hD : va_D A [(h0, .inr (11, [.ref r0_0, .int v0_1, .ref r0_2, .ref r0_3, .ref r0_4, .ref r0_5, .ref r0_6, .ref r0_7, .ref r0_8, .ref r0_9, .ref r0_10, .ref r0_11, .ref r0_12, .ref r0_13, .ref r0_14, .int v0_15])), (r0_2, .inl (k1, 5, .inl f_5))] := by rw [ef_5]; exact hD
  refine lv_iconst (v := (-1)) hx hb dX11_refuse_19 (by decide +kernel) ?_
  have hP9 := hP.sub (ws' := [(h0, .inr (11, [.ref r0_0, .int v0_1, .ref r0_2, .ref r0_3, .ref r0_4, .ref r0_5, .ref r0_6, .ref r0_7, .ref r0_8, .ref r0_9, .ref r0_10, .ref r0_11, .ref r0_12, .ref r0_13, .ref r0_14, .int v0_15])), (r0_2, .inl (k1, 5, .inl f_5))]) [0, 1] rfl
  have hD9 := hD.sub (ws' := [(h0, .inr (11, [.ref r0_0, .int v0_1, .ref r0_2, .ref r0_3, .ref r0_4, .ref r0_5, .ref r0_6, .ref r0_7, .ref r0_8, .ref r0_9, .ref r0_10, .ref r0_11, .ref r0_12, .ref r0_13, .ref r0_14, .int v0_15])), (r0_2, .inl (k1, 5, .inl f_5))]) [0, 1] (by decide) rfl
  have hK9 := hK.sub (tys' := [(k1, .int)]) [0] rfl
  rw [← hQ]
  exact W.iret (v := (-1)) hx hb hr (fun t ht hW => ⟨⟨(-1), ((fun k => ([] : List Int32).getD k 0), (fun k => ([f_5] : List (Nat → Int32)).getD k (fun _ => 0)), (fun k => ([] : List (Nat → Int64)).getD k (fun _ => 0))), rfl, ⟨(show (-1 : Int) ≤ ((-1) : Int32).toInt ∧ ((-1) : Int32).toInt ≤ -1 by decide +kernel), trivial⟩, by rw [ht]; exact hP9, va_K.moved hW.alike hK9, hD9⟩, hS.F ht⟩) hS.2.2 dX11_refuse_20
set_option maxHeartbeats 4000000 in
set_option maxRecDepth 100000 in
theorem zs_X11_putBytes (l : Launch) (dC : Nat → ClassId) (dI : Nat → Nat → Nat) (h0 : Nat) (p1 : Int32) (r0_0 : Nat) (v0_1 : Int32) (r0_2 : Nat) (r0_3 : Nat) (r0_4 : Nat) (r0_5 : Nat) (r0_6 : Nat) (r0_7 : Nat) (r0_8 : Nat) (r0_9 : Nat) (r0_10 : Nat) (r0_11 : Nat) (r0_12 : Nat) (r0_13 : Nat) (r0_14 : Nat) (v0_15 : Int32) (k1 : Nat) (f1 : Nat → Int32) (hq_v0_1 : (0 : Int) ≤ v0_1.toInt ∧ v0_1.toInt ≤ 1200) (sz : Nat) : Met l yX11_putBytes wsX11_putBytes ({ frames := 0, cells := 0, slots := 0, locals := 0 }) (va_Pc [.ref h0, .int p1] (fun U => U.heap.size = sz ∧ va_P (dC, dI) vwCl [(h0, .inr (11, [.ref r0_0, .int v0_1, .ref r0_2, .ref r0_3, .ref r0_4, .ref r0_5, .ref r0_6, .ref r0_7, .ref r0_8, .ref r0_9, .ref r0_10, .ref r0_11, .ref r0_12, .ref r0_13, .ref r0_14, .int v0_15])), (r0_0, .inl (k1, 1200, .inl f1))] U.heap ∧ va_K (dC, dI) vwCl [(k1, .byte)] U ∧ va_D (fun _ => True) [(h0, .inr (11, [.ref r0_0, .int v0_1, .ref r0_2, .ref r0_3, .ref r0_4, .ref r0_5, .ref r0_6, .ref r0_7, .ref r0_8, .ref r0_9, .ref r0_10, .ref r0_11, .ref r0_12, .ref r0_13, .ref r0_14, .int v0_15])), (r0_0, .inl (k1, 1200, .inl f1))])) (va_Qv (fun (u : zV) => ((0 : Int) ≤ (u.1 0).toInt ∧ (u.1 0).toInt ≤ 1200) ∧ True) (fun u t => va_P (dC, dI) vwCl [(h0, .inr (11, [.ref r0_0, .int (u.1 0), .ref r0_2, .ref r0_3, .ref r0_4, .ref r0_5, .ref r0_6, .ref r0_7, .ref r0_8, .ref r0_9, .ref r0_10, .ref r0_11, .ref r0_12, .ref r0_13, .ref r0_14, .int v0_15])), (r0_0, .inl (k1, 1200, .inl (u.2.1 0)))] t.heap ∧ va_K (dC, dI) vwCl [(k1, .byte)] t ∧ va_D (va_A [(h0, .inr (11, [.ref r0_0, .int v0_1, .ref r0_2, .ref r0_3, .ref r0_4, .ref r0_5, .ref r0_6, .ref r0_7, .ref r0_8, .ref r0_9, .ref r0_10, .ref r0_11, .ref r0_12, .ref r0_13, .ref r0_14, .int v0_15])), (r0_0, .inl (k1, 1200, .inl f1))] sz) [(h0, .inr (11, [.ref r0_0, .int (u.1 0), .ref r0_2, .ref r0_3, .ref r0_4, .ref r0_5, .ref r0_6, .ref r0_7, .ref r0_8, .ref r0_9, .ref r0_10, .ref r0_11, .ref r0_12, .ref r0_13, .ref r0_14, .int v0_15])), (r0_0, .inl (k1, 1200, .inl (u.2.1 0)))]) (va_A [(h0, .inr (11, [.ref r0_0, .int v0_1, .ref r0_2, .ref r0_3, .ref r0_4, .ref r0_5, .ref r0_6, .ref r0_7, .ref r0_8, .ref r0_9, .ref r0_10, .ref r0_11, .ref r0_12, .ref r0_13, .ref r0_14, .int v0_15])), (r0_0, .inl (k1, 1200, .inl f1))] sz)) 0 0 (va_A [(h0, .inr (11, [.ref r0_0, .int v0_1, .ref r0_2, .ref r0_3, .ref r0_4, .ref r0_5, .ref r0_6, .ref r0_7, .ref r0_8, .ref r0_9, .ref r0_10, .ref r0_11, .ref r0_12, .ref r0_13, .ref r0_14, .int v0_15])), (r0_0, .inl (k1, 1200, .inl f1))] sz) := by
  refine Met.ofW (cc := cX11_putBytes) (maxL := 3) (ret := none) (by decide +kernel) rfl ?_
  intro p e s m args below meth c s₁ B hml hv
  obtain ⟨rfl, hsz, hP, hK, hD0⟩ := hv
  have hx := B.exec
  have hb := B.bytes
  have hr := B.returns
  have hts := atoms_spec (ws := wsX11_putBytes) B.pre
  have hown : s.vm.findClass RX11 = some m.cls := findClass_of_methodNamed B.named
  have hlocks := B.notSynchronized
  subst hsz
  have hD := hD0.self (sz := s.heap.size)
  generalize hAe : va_A [(h0, .inr (11, [.ref r0_0, .int v0_1, .ref r0_2, .ref r0_3, .ref r0_4, .ref r0_5, .ref r0_6, .ref r0_7, .ref r0_8, .ref r0_9, .ref r0_10, .ref r0_11, .ref r0_12, .ref r0_13, .ref r0_14, .int v0_15])), (r0_0, .inl (k1, 1200, .inl f1))] s.heap.size = A at hD ⊢
  have hA : ∀ q : Nat, s.heap.size ≤ q → A q := fun q h => by rw [← hAe]; exact Or.inr h
  have hS : va_S A s.heap s.heap [] := va_S.rf
  have hP : va_P (dC, dI) vwCl [(h0, .inr (11, [.ref r0_0, .int v0_1, .ref r0_2, .ref r0_3, .ref r0_4, .ref r0_5, .ref r0_6, .ref r0_7, .ref r0_8, .ref r0_9, .ref r0_10, .ref r0_11, .ref r0_12, .ref r0_13, .ref r0_14, .int v0_15])), (r0_0, .inl (k1, 1200, .inl f1))] s.heap := hP
  have hl := lv_entry ([.ref h0, .int p1]) (n := 3) (Nat.le_of_ble_eq_true rfl)
  rw [lg_entry_eq]
  generalize (lg_sl ([.ref h0, .int p1]) ++ List.replicate (3 - (lg_sl ([.ref h0, .int p1])).length) Slot.unset).toArray = ls at hl ⊢
  have hl : lv_has ls 3 [(0, .ref h0), (1, .int p1)] := hl
  generalize hQ : MQ below (va_Qv (fun (u : zV) => ((0 : Int) ≤ (u.1 0).toInt ∧ (u.1 0).toInt ≤ 1200) ∧ True) (fun u t => va_P (dC, dI) vwCl [(h0, .inr (11, [.ref r0_0, .int (u.1 0), .ref r0_2, .ref r0_3, .ref r0_4, .ref r0_5, .ref r0_6, .ref r0_7, .ref r0_8, .ref r0_9, .ref r0_10, .ref r0_11, .ref r0_12, .ref r0_13, .ref r0_14, .int v0_15])), (r0_0, .inl (k1, 1200, .inl (u.2.1 0)))] t.heap ∧ va_K (dC, dI) vwCl [(k1, .byte)] t ∧ va_D A [(h0, .inr (11, [.ref r0_0, .int (u.1 0), .ref r0_2, .ref r0_3, .ref r0_4, .ref r0_5, .ref r0_6, .ref r0_7, .ref r0_8, .ref r0_9, .ref r0_10, .ref r0_11, .ref r0_12, .ref r0_13, .ref r0_14, .int v0_15])), (r0_0, .inl (k1, 1200, .inl (u.2.1 0)))]) A) ([.ref h0, .int p1] : List Value).toArray s 0 0 A = Q
  refine lv_bipush (v := 24) hx hb dX11_putBytes_0 (by decide +kernel) ?_
  refine lv_istore_n (lv' := [(2, .int 24), (0, .ref h0), (1, .int p1)]) hx hb dX11_putBytes_2 rfl hl (by decide) rfl (fun ls hl => ?_)
  have lp3 : ∀ (n : Nat) (g3_r0_0 : Nat → Int32) (y3_2 : Int32) (y3_h0_1 : Int32) (H : Heap) (locs : List Loc) (ls : Array Slot), (0 : Int) ≤ y3_2.toInt + (8) → (0 : Int) ≤ y3_h0_1.toInt + (0) → (v0_1.toInt : Int) ≤ y3_h0_1.toInt + (0) → (y3_2.toInt : Int) ≤ 0 + (24) → (y3_h0_1.toInt : Int) ≤ 0 + (1200) → y3_2.toInt + 9 < n → va_P (dC, dI) vwCl [(h0, .inr (11, [.ref r0_0, .int y3_h0_1, .ref r0_2, .ref r0_3, .ref r0_4, .ref r0_5, .ref r0_6, .ref r0_7, .ref r0_8, .ref r0_9, .ref r0_10, .ref r0_11, .ref r0_12, .ref r0_13, .ref r0_14, .int v0_15])), (r0_0, .inl (k1, 1200, .inl g3_r0_0))] H → va_D A [(h0, .inr (11, [.ref r0_0, .int y3_h0_1, .ref r0_2, .ref r0_3, .ref r0_4, .ref r0_5, .ref r0_6, .ref r0_7, .ref r0_8, .ref r0_9, .ref r0_10, .ref r0_11, .ref r0_12, .ref r0_13, .ref r0_14, .int v0_15])), (r0_0, .inl (k1, 1200, .inl g3_r0_0))] → va_S A s.heap H locs → lv_has ls 3 [(2, .int y3_2), (0, .ref h0), (1, .int p1)] → W p l e (headSpec wsX11_putBytes ({ frames := 0, cells := 0, slots := 0, locals := 0 })).room s m ([.ref h0, .int p1] : List Value).toArray below meth c H locs 0 0 Q (F0 m 3 ls []) := by
    intro n
    induction n with
    | zero =>
      intro g3_r0_0 y3_2 y3_h0_1 H locs ls hz3_0 hz3_1 hz3_2 hz3_3 hz3_4  hmeas hP hD hS hl
      exfalso; omega
    | succ n ih3 =>
      intro g3_r0_0 y3_2 y3_h0_1 H locs ls hz3_0 hz3_1 hz3_2 hz3_3 hz3_4  hmeas hP hD hS hl
      refine lv_iload_n hx hb dX11_putBytes_3 rfl (lv_at hl 0 rfl) ?_
      refine lv_if_lt (tgt := 46) hx hb dX11_putBytes_4 (by decide) (fun c_1 => ?_) (fun c_1 => ?_)
      · have oc_1 := zk_lt rfl (by decide +kernel : (0 : Int32).toInt = 0) c_1
        have hP9 := hP.sub (ws' := [(h0, .inr (11, [.ref r0_0, .int y3_h0_1, .ref r0_2, .ref r0_3, .ref r0_4, .ref r0_5, .ref r0_6, .ref r0_7, .ref r0_8, .ref r0_9, .ref r0_10, .ref r0_11, .ref r0_12, .ref r0_13, .ref r0_14, .int v0_15])), (r0_0, .inl (k1, 1200, .inl g3_r0_0))]) [0, 1] rfl
        have hD9 := hD.sub (ws' := [(h0, .inr (11, [.ref r0_0, .int y3_h0_1, .ref r0_2, .ref r0_3, .ref r0_4, .ref r0_5, .ref r0_6, .ref r0_7, .ref r0_8, .ref r0_9, .ref r0_10, .ref r0_11, .ref r0_12, .ref r0_13, .ref r0_14, .int v0_15])), (r0_0, .inl (k1, 1200, .inl g3_r0_0))]) [0, 1] (by decide) rfl
        have hK9 := hK.sub (tys' := [(k1, .byte)]) [0] rfl
        rw [← hQ]
        exact W.vret hx hb hr (fun t ht hW => ⟨⟨((fun k => ([y3_h0_1] : List Int32).getD k 0), (fun k => ([g3_r0_0] : List (Nat → Int32)).getD k (fun _ => 0)), (fun k => ([] : List (Nat → Int64)).getD k (fun _ => 0))), rfl, ⟨(show (0 : Int) ≤ (y3_h0_1 : Int32).toInt ∧ (y3_h0_1 : Int32).toInt ≤ 1200 by omega), trivial⟩, by rw [ht]; exact hP9, va_K.moved hW.alike hK9, hD9⟩, hS.F ht⟩) hS.2.2 dX11_putBytes_46
      have oc_1 := zk_nlt rfl (by decide +kernel : (0 : Int32).toInt = 0) c_1
      refine lv_aload_n hx hb dX11_putBytes_7 rfl (lv_at hl 1 rfl) ?_
      refine va_get (D := (dC, dI)) (ci := 11) (v := .int y3_h0_1) (C := RX11) (T := TX11) (N := 16) hx hb hts zn_X11_putBytes_X11 hown hK hP 0 rfl rfl 1 (by decide) (hts (.fieldLink RX11 89 "ShortEnough" "tapeLength" "I") zw_X11_putBytes_140) (fun _ h9 => h9) rfl dX11_putBytes_8 ?_
      refine lv_sipush (v := 1200) hx hb dX11_putBytes_11 (by decide +kernel) ?_
      refine lv_icmp_ge (tgt := 40) hx hb dX11_putBytes_14 (by decide) (fun c_2 => ?_) (fun c_2 => ?_)
      · have oc_2 := zk_le (by decide +kernel : (1200 : Int32).toInt = 1200) rfl c_2
        obtain ⟨x_3, ex_3⟩ : ∃ y : Int32, y = y3_2 + (-8) := ⟨_, rfl⟩
        refine lv_iinc (v := x_3) (lv' := [(2, .int x_3), (0, .ref h0), (1, .int p1)]) hx hb dX11_putBytes_40 hl (k := 0) rfl (by rw [ex_3]; rfl) (by decide) rfl (fun ls hl => ?_)
        have hx_3 := zo_add ex_3 rfl (by decide +kernel : ((-8) : Int32).toInt = -8) (by omega)
        refine lv_goto (tgt := 3) hx hb dX11_putBytes_43 (by decide) ?_
        exact ih3  g3_r0_0 x_3 y3_h0_1 H locs ls (by omega) (by omega) (by omega) (by omega) (by omega)  (by omega) hP hD hS (lv_sub hl [0, 1, 2] rfl)
      have oc_2 := zk_nle (by decide +kernel : (1200 : Int32).toInt = 1200) rfl c_2
      refine lv_aload_n hx hb dX11_putBytes_17 rfl (lv_at hl 1 rfl) ?_
      refine va_get (D := (dC, dI)) (ci := 11) (v := .ref r0_0) (C := RX11) (T := TX11) (N := 16) hx hb hts zn_X11_putBytes_X11 hown hK hP 0 rfl rfl 0 (by decide) (hts (.fieldLink RX11 9 "ShortEnough" "tape" "[B") zw_X11_putBytes_141) (fun _ h9 => h9) rfl dX11_putBytes_18 ?_
      refine lv_aload_n hx hb dX11_putBytes_21 rfl (lv_at hl 1 rfl) ?_
      refine va_get (D := (dC, dI)) (ci := 11) (v := .int y3_h0_1) (C := RX11) (T := TX11) (N := 16) hx hb hts zn_X11_putBytes_X11 hown hK hP 0 rfl rfl 1 (by decide) (hts (.fieldLink RX11 89 "ShortEnough" "tapeLength" "I") zw_X11_putBytes_140) (fun _ h9 => h9) rfl dX11_putBytes_22 ?_
      refine lv_iload_n hx hb dX11_putBytes_25 rfl (lv_at hl 2 rfl) ?_
      refine lv_iload_n hx hb dX11_putBytes_26 rfl (lv_at hl 0 rfl) ?_
      refine lv_ishr hx hb dX11_putBytes_27 ?_
      refine lv_topi (fun x_4 ex_4 => ?_)
      obtain ⟨x_5, ex_5⟩ : ∃ y : Int32, x_4.toInt8.toInt32 = y := ⟨_, rfl⟩
      refine lv_i2b (v := x_5) hx hb dX11_putBytes_28 ex_5 ?_
      refine va_bast hx hb hK hP hD hS 1 0 rfl rfl (vp_in_iff.mpr ⟨by omega, by omega⟩) dX11_putBytes_29 (fun H locs hP hD hS => ?_)
      obtain ⟨f_6, ef_6⟩ : ∃ g : Nat → Int32, g = upd g3_r0_0 (y3_h0_1 : Int32).toNatClampNeg (vp_nar .byte x_5) := ⟨_, rfl⟩
      have hP : va_P (dC, dI) vwCl [(h0, .inr (11, [.ref r0_0, .int y3_h0_1, .ref r0_2, .ref r0_3, .ref r0_4, .ref r0_5, .ref r0_6, .ref r0_7, .ref r0_8, .ref r0_9, .ref r0_10, .ref r0_11, .ref r0_12, .ref r0_13, .ref r0_14, .int v0_15])), (r0_0, .inl (k1, 1200, .inl f_6))] H := by rw [ef_6]; exact hP
      have hD : va_D A [(h0, .inr (11, [.ref r0_0, .int y3_h0_1, .ref r0_2, .ref r0_3, .ref r0_4, .ref r0_5, .ref r0_6, .ref r0_7, .ref r0_8, .ref r0_9, .ref r0_10, .ref r0_11, .ref r0_12, .ref r0_13, .ref r0_14, .int v0_15])), (r0_0, .inl (k1, 1200, .inl f_6))] := by rw [ef_6]; exact hD
      refine lv_aload_n hx hb dX11_putBytes_30 rfl (lv_at hl 1 rfl) ?_
      refine lv_dup hx hb dX11_putBytes_31 rfl ?_
      refine va_get (D := (dC, dI)) (ci := 11) (v := .int y3_h0_1) (C := RX11) (T := TX11) (N := 16) hx hb hts zn_X11_putBytes_X11 hown hK hP 0 rfl rfl 1 (by decide) (hts (.fieldLink RX11 89 "ShortEnough" "tapeLength" "I") zw_X11_putBytes_140) (fun _ h9 => h9) rfl dX11_putBytes_32 ?_
      refine lv_iconst (v := 1) hx hb dX11_putBytes_35 (by decide +kernel) ?_
      refine lv_iadd hx hb dX11_putBytes_36 ?_
      refine lv_topi (fun x_7 ex_7 => ?_)
      have hx_7 := zo_add ex_7 rfl (by decide +kernel : (1 : Int32).toInt = 1) (by omega)
      refine va_put (D := (dC, dI)) (ci := 11) (v := .int x_7) (ty := .int) (C := RX11) (T := TX11) (N := 16) hx hb hts zn_X11_putBytes_X11 tyX11 tyX11_ok nmX11 hown hK hP hD hS 0 rfl rfl 1 (by decide) (hts (.fieldLink RX11 89 "ShortEnough" "tapeLength" "I") zw_X11_putBytes_140) (fun _ h9 => h9) rfl (by decide +kernel) rfl rfl (Nat.le_of_ble_eq_true rfl) dX11_putBytes_37 (fun H locs hP hD hS => ?_)
      have hP : va_P (dC, dI) vwCl [(h0, .inr (11, [.ref r0_0, .int x_7, .ref r0_2, .ref r0_3, .ref r0_4, .ref r0_5, .ref r0_6, .ref r0_7, .ref r0_8, .ref r0_9, .ref r0_10, .ref r0_11, .ref r0_12, .ref r0_13, .ref r0_14, .int v0_15])), (r0_0, .inl (k1, 1200, .inl f_6))] H := hP
      have hD : va_D A [(h0, .inr (11, [.ref r0_0, .int x_7, .ref r0_2, .ref r0_3, .ref r0_4, .ref r0_5, .ref r0_6, .ref r0_7, .ref r0_8, .ref r0_9, .ref r0_10, .ref r0_11, .ref r0_12, .ref r0_13, .ref r0_14, .int v0_15])), (r0_0, .inl (k1, 1200, .inl f_6))] := hD
      obtain ⟨x_8, ex_8⟩ : ∃ y : Int32, y = y3_2 + (-8) := ⟨_, rfl⟩
      refine lv_iinc (v := x_8) (lv' := [(2, .int x_8), (0, .ref h0), (1, .int p1)]) hx hb dX11_putBytes_40 hl (k := 0) rfl (by rw [ex_8]; rfl) (by decide) rfl (fun ls hl => ?_)
      have hx_8 := zo_add ex_8 rfl (by decide +kernel : ((-8) : Int32).toInt = -8) (by omega)
      refine lv_goto (tgt := 3) hx hb dX11_putBytes_43 (by decide) ?_
      exact ih3  f_6 x_8 x_7 H locs ls (by omega) (by omega) (by omega) (by omega) (by omega)  (by omega) hP hD hS (lv_sub hl [0, 1, 2] rfl)
  have kk24 : (24 : Int32).toInt = 24 := (by decide +kernel)
  exact lp3 (((24 : Int32).toInt + 9).toNat + 1) f1 24 v0_1 s.heap [] ls (by omega) (by omega) (by omega) (by omega) (by omega)  (by omega) hP hD hS (lv_sub hl [0, 1, 2] rfl)
