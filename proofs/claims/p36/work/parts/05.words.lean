theorem zn_X9_hasFormat_X9 : ∀ w ∈ wsX90, w ∈ wsX9_hasFormat := fun _ h => List.mem_cons_of_mem _ (List.mem_append_right _ h)
theorem zw_X9_hasFormat_1 : Cond.fieldLink RX9 45 "ShortEnough$Task" "formats" "I" ∈ wsX9_hasFormat := by decide +kernel
theorem zn_X9_hasNumber_X9 : ∀ w ∈ wsX90, w ∈ wsX9_hasNumber := fun _ h => List.mem_cons_of_mem _ (List.mem_append_left _ (List.mem_append_right _ h))
theorem zw_X9_hasNumber_3 : Cond.fieldLink RX9 27 "ShortEnough$Task" "numbers" "LShortEnough$Numbers;" ∈ wsX9_hasNumber := by decide +kernel
theorem zn_X9_hasNumber_X4 : ∀ w ∈ wsX40, w ∈ wsX9_hasNumber := fun _ h => List.mem_cons_of_mem _ (List.mem_append_right _ h)
theorem zw_X9_hasNumber_5 : Cond.fieldLink RX9 52 "ShortEnough$Numbers" "count" "I" ∈ wsX9_hasNumber := by decide +kernel
theorem zn_X4_madeOf_X4 : ∀ w ∈ wsX40, w ∈ wsX4_madeOf := fun _ h => List.mem_cons_of_mem _ (List.mem_append_right _ h)
theorem zw_X4_madeOf_7 : Cond.fieldLink RX4 36 "ShortEnough$Numbers" "count" "I" ∈ wsX4_madeOf := by decide +kernel
theorem zw_X4_madeOf_8 : Cond.fieldLink RX4 30 "ShortEnough$Numbers" "made" "[I" ∈ wsX4_madeOf := by decide +kernel
theorem zn_X4_amountOf_X4 : ∀ w ∈ wsX40, w ∈ wsX4_amountOf := fun _ h => List.mem_cons_of_mem _ (List.mem_append_right _ h)
theorem zw_X4_amountOf_10 : Cond.fieldLink RX4 36 "ShortEnough$Numbers" "count" "I" ∈ wsX4_amountOf := by decide +kernel
theorem zw_X4_amountOf_11 : Cond.fieldLink RX4 33 "ShortEnough$Numbers" "amount" "[I" ∈ wsX4_amountOf := by decide +kernel
theorem zn_X4_countAnswers_X4 : ∀ w ∈ wsX40, w ∈ wsX4_countAnswers := fun _ h => List.mem_cons_of_mem _ (List.mem_append_right _ h)
theorem zw_X4_countAnswers_13 : Cond.fieldLink RX4 36 "ShortEnough$Numbers" "count" "I" ∈ wsX4_countAnswers := by decide +kernel
theorem zw_X4_countAnswers_14 : Cond.fieldLink RX4 21 "ShortEnough$Numbers" "allowed" "[I" ∈ wsX4_countAnswers := by decide +kernel
theorem zn_X4_find_X4 : ∀ w ∈ wsX40, w ∈ wsX4_find := fun _ h => List.mem_cons_of_mem _ (List.mem_append_right _ h)
theorem zw_X4_find_16 : Cond.fieldLink RX4 36 "ShortEnough$Numbers" "count" "I" ∈ wsX4_find := by decide +kernel
theorem zw_X4_find_17 : Cond.fieldLink RX4 9 "ShortEnough$Numbers" "name" "[I" ∈ wsX4_find := by decide +kernel
theorem zn_X9_findFormat_X9 : ∀ w ∈ wsX90, w ∈ wsX9_findFormat := fun _ h => List.mem_cons_of_mem _ (List.mem_append_right _ h)
theorem zw_X9_findFormat_19 : Cond.fieldLink RX9 45 "ShortEnough$Task" "formats" "I" ∈ wsX9_findFormat := by decide +kernel
theorem zw_X9_findFormat_20 : Cond.fieldLink RX9 9 "ShortEnough$Task" "formatName" "[I" ∈ wsX9_findFormat := by decide +kernel
theorem zn_X2_isFree_X2 : ∀ w ∈ wsX20, w ∈ wsX2_isFree := fun _ h => List.mem_cons_of_mem _ (List.mem_append_right _ h)
theorem zw_X2_isFree_22 : Cond.fieldLink RX2 21 "ShortEnough$Groups" "count" "I" ∈ wsX2_isFree := by decide +kernel
theorem zw_X2_isFree_23 : Cond.fieldLink RX2 15 "ShortEnough$Groups" "fixedAs" "[I" ∈ wsX2_isFree := by decide +kernel
theorem zn_X9_formatOf_X9 : ∀ w ∈ wsX90, w ∈ wsX9_formatOf := fun _ h => List.mem_cons_of_mem _ (List.mem_append_left _ (List.mem_append_left _ (List.mem_append_right _ h)))
theorem zw_X9_formatOf_25 : Cond.fieldLink RX9 27 "ShortEnough$Task" "numbers" "LShortEnough$Numbers;" ∈ wsX9_formatOf := by decide +kernel
theorem zn_X9_formatOf_X4 : ∀ w ∈ wsX40, w ∈ wsX9_formatOf := fun _ h => List.mem_cons_of_mem _ (List.mem_append_left _ (List.mem_append_right _ h))
theorem zw_X9_formatOf_27 : Cond.fieldLink RX9 52 "ShortEnough$Numbers" "count" "I" ∈ wsX9_formatOf := by decide +kernel
theorem zw_X9_formatOf_28 : Cond.fieldLink RX9 34 "ShortEnough$Task" "groups" "LShortEnough$Groups;" ∈ wsX9_formatOf := by decide +kernel
theorem zn_X9_formatOf_X2 : ∀ w ∈ wsX20, w ∈ wsX9_formatOf := fun _ h => List.mem_cons_of_mem _ (List.mem_append_right _ h)
theorem zw_X9_formatOf_30 : Cond.fieldLink RX9 80 "ShortEnough$Groups" "of" "[I" ∈ wsX9_formatOf := by decide +kernel
theorem zn_X9_isAnswer_X9 : ∀ w ∈ wsX90, w ∈ wsX9_isAnswer := fun _ h => List.mem_cons_of_mem _ (List.mem_append_left _ (List.mem_append_right _ h))
theorem zw_X9_isAnswer_32 : Cond.fieldLink RX9 27 "ShortEnough$Task" "numbers" "LShortEnough$Numbers;" ∈ wsX9_isAnswer := by decide +kernel
theorem zn_X9_isAnswer_X4 : ∀ w ∈ wsX40, w ∈ wsX9_isAnswer := fun _ h => List.mem_cons_of_mem _ (List.mem_append_right _ h)
theorem zw_X9_isAnswer_34 : Cond.fieldLink RX9 74 "ShortEnough$Numbers" "allowed" "[I" ∈ wsX9_isAnswer := by decide +kernel
theorem zn_X9_isInput_X9 : ∀ w ∈ wsX90, w ∈ wsX9_isInput := fun _ h => List.mem_cons_of_mem _ (List.mem_append_left _ (List.mem_append_right _ h))
theorem zw_X9_isInput_36 : Cond.fieldLink RX9 27 "ShortEnough$Task" "numbers" "LShortEnough$Numbers;" ∈ wsX9_isInput := by decide +kernel
theorem zn_X9_isInput_X4 : ∀ w ∈ wsX40, w ∈ wsX9_isInput := fun _ h => List.mem_cons_of_mem _ (List.mem_append_right _ h)
theorem zw_X9_isInput_38 : Cond.fieldLink RX9 77 "ShortEnough$Numbers" "op" "[I" ∈ wsX9_isInput := by decide +kernel
theorem zn_X9_isFree_X9 : ∀ w ∈ wsX90, w ∈ wsX9_isFree := fun _ h => List.mem_cons_of_mem _ (List.mem_append_left _ (List.mem_append_left _ (List.mem_append_right _ h)))
theorem zw_X9_isFree_40 : Cond.fieldLink RX9 34 "ShortEnough$Task" "groups" "LShortEnough$Groups;" ∈ wsX9_isFree := by decide +kernel
theorem zn_X9_isFree_X2 : ∀ w ∈ wsX20, w ∈ wsX9_isFree := fun _ h => List.mem_cons_of_mem _ (List.mem_append_left _ (List.mem_append_right _ h))
theorem zw_X9_isFree_42 : Cond.fieldLink RX9 80 "ShortEnough$Groups" "of" "[I" ∈ wsX9_isFree := by decide +kernel
theorem zn_X9_stepOf_X9 : ∀ w ∈ wsX90, w ∈ wsX9_stepOf := fun _ h => List.mem_cons_of_mem _ (List.mem_append_right _ h)
theorem zw_X9_stepOf_44 : Cond.fieldLink RX9 45 "ShortEnough$Task" "formats" "I" ∈ wsX9_stepOf := by decide +kernel
theorem zw_X9_stepOf_45 : Cond.fieldLink RX9 15 "ShortEnough$Task" "step" "[I" ∈ wsX9_stepOf := by decide +kernel
theorem zn_X9_mostOf_X9 : ∀ w ∈ wsX90, w ∈ wsX9_mostOf := fun _ h => List.mem_cons_of_mem _ (List.mem_append_right _ h)
theorem zw_X9_mostOf_47 : Cond.fieldLink RX9 45 "ShortEnough$Task" "formats" "I" ∈ wsX9_mostOf := by decide +kernel
theorem zw_X9_mostOf_48 : Cond.fieldLink RX9 18 "ShortEnough$Task" "most" "[I" ∈ wsX9_mostOf := by decide +kernel
theorem zn_X9_finestFormat_X9 : ∀ w ∈ wsX90, w ∈ wsX9_finestFormat := fun _ h => List.mem_cons_of_mem _ (List.mem_append_right _ h)
theorem zw_X9_finestFormat_50 : Cond.fieldLink RX9 45 "ShortEnough$Task" "formats" "I" ∈ wsX9_finestFormat := by decide +kernel
theorem zw_X9_finestFormat_51 : Cond.fieldLink RX9 15 "ShortEnough$Task" "step" "[I" ∈ wsX9_finestFormat := by decide +kernel
theorem zn_X9_hasChoice_X9 : ∀ w ∈ wsX90, w ∈ wsX9_hasChoice := fun _ h => List.mem_cons_of_mem _ (List.mem_append_left _ (List.mem_append_left _ (List.mem_append_right _ h)))
theorem zw_X9_hasChoice_53 : Cond.fieldLink RX9 27 "ShortEnough$Task" "numbers" "LShortEnough$Numbers;" ∈ wsX9_hasChoice := by decide +kernel
theorem zn_X9_hasChoice_X4 : ∀ w ∈ wsX40, w ∈ wsX9_hasChoice := fun _ h => List.mem_cons_of_mem _ (List.mem_append_left _ (List.mem_append_right _ h))
theorem zw_X9_hasChoice_55 : Cond.fieldLink RX9 52 "ShortEnough$Numbers" "count" "I" ∈ wsX9_hasChoice := by decide +kernel
theorem zw_X9_hasChoice_56 : Cond.fieldLink RX9 34 "ShortEnough$Task" "groups" "LShortEnough$Groups;" ∈ wsX9_hasChoice := by decide +kernel
theorem zn_X9_hasChoice_X2 : ∀ w ∈ wsX20, w ∈ wsX9_hasChoice := fun _ h => List.mem_cons_of_mem _ (List.mem_append_right _ h)
theorem zw_X9_hasChoice_58 : Cond.fieldLink RX9 66 "ShortEnough$Groups" "clash" "Z" ∈ wsX9_hasChoice := by decide +kernel
theorem zn_X2_leaderOf_X2 : ∀ w ∈ wsX20, w ∈ wsX2_leaderOf := fun _ h => List.mem_cons_of_mem _ (List.mem_append_right _ h)
theorem zw_X2_leaderOf_60 : Cond.fieldLink RX2 21 "ShortEnough$Groups" "count" "I" ∈ wsX2_leaderOf := by decide +kernel
theorem zw_X2_leaderOf_61 : Cond.fieldLink RX2 18 "ShortEnough$Groups" "leader" "[I" ∈ wsX2_leaderOf := by decide +kernel
theorem zn_X2_fillFree_X2 : ∀ w ∈ wsX20, w ∈ wsX2_fillFree := fun _ h => List.mem_cons_of_mem _ (List.mem_append_right _ h)
theorem zw_X2_fillFree_63 : Cond.fieldLink RX2 21 "ShortEnough$Groups" "count" "I" ∈ wsX2_fillFree := by decide +kernel
theorem zw_X2_fillFree_64 : Cond.fieldLink RX2 15 "ShortEnough$Groups" "fixedAs" "[I" ∈ wsX2_fillFree := by decide +kernel
theorem zn_X4_fix_X4 : ∀ w ∈ wsX40, w ∈ wsX4_fix := fun _ h => List.mem_cons_of_mem _ (List.mem_append_right _ h)
theorem zw_X4_fix_66 : Cond.fieldLink RX4 36 "ShortEnough$Numbers" "count" "I" ∈ wsX4_fix := by decide +kernel
theorem zw_X4_fix_67 : Cond.fieldLink RX4 18 "ShortEnough$Numbers" "fixedAs" "[I" ∈ wsX4_fix := by decide +kernel
theorem zn_X4_allow_X4 : ∀ w ∈ wsX40, w ∈ wsX4_allow := fun _ h => List.mem_cons_of_mem _ (List.mem_append_right _ h)
theorem zw_X4_allow_69 : Cond.fieldLink RX4 36 "ShortEnough$Numbers" "count" "I" ∈ wsX4_allow := by decide +kernel
theorem zw_X4_allow_70 : Cond.fieldLink RX4 21 "ShortEnough$Numbers" "allowed" "[I" ∈ wsX4_allow := by decide +kernel
theorem zn_X4_join_X4 : ∀ w ∈ wsX40, w ∈ wsX4_join := fun _ h => List.mem_cons_of_mem _ (List.mem_append_right _ h)
theorem zw_X4_join_72 : Cond.fieldLink RX4 36 "ShortEnough$Numbers" "count" "I" ∈ wsX4_join := by decide +kernel
theorem zw_X4_join_73 : Cond.fieldLink RX4 27 "ShortEnough$Numbers" "joined" "[I" ∈ wsX4_join := by decide +kernel
theorem zn_X4_prepare_X4 : ∀ w ∈ wsX40, w ∈ wsX4_prepare := fun _ h => List.mem_cons_of_mem _ (List.mem_append_right _ h)
theorem zw_X4_prepare_75 : Cond.fieldLink RX4 36 "ShortEnough$Numbers" "count" "I" ∈ wsX4_prepare := by decide +kernel
theorem zw_X4_prepare_76 : Cond.fieldLink RX4 30 "ShortEnough$Numbers" "made" "[I" ∈ wsX4_prepare := by decide +kernel
theorem zw_X4_prepare_77 : Cond.fieldLink RX4 33 "ShortEnough$Numbers" "amount" "[I" ∈ wsX4_prepare := by decide +kernel
theorem zn_X4_letsOf_X4 : ∀ w ∈ wsX40, w ∈ wsX4_letsOf := fun _ h => List.mem_cons_of_mem _ (List.mem_append_right _ h)
theorem zw_X4_letsOf_79 : Cond.fieldLink RX4 30 "ShortEnough$Numbers" "made" "[I" ∈ wsX4_letsOf := by decide +kernel
theorem zw_X4_letsOf_80 : Cond.fieldLink RX4 36 "ShortEnough$Numbers" "count" "I" ∈ wsX4_letsOf := by decide +kernel
theorem zw_X4_letsOf_81 : Cond.fieldLink RX4 24 "ShortEnough$Numbers" "lets" "[I" ∈ wsX4_letsOf := by decide +kernel
theorem zn_X4_add_X4 : ∀ w ∈ wsX40, w ∈ wsX4_add := fun _ h => List.mem_cons_of_mem _ (List.mem_append_right _ h)
theorem zw_X4_add_83 : Cond.fieldLink RX4 36 "ShortEnough$Numbers" "count" "I" ∈ wsX4_add := by decide +kernel
theorem zw_X4_add_84 : Cond.fieldLink RX4 9 "ShortEnough$Numbers" "name" "[I" ∈ wsX4_add := by decide +kernel
theorem zw_X4_add_85 : Cond.fieldLink RX4 15 "ShortEnough$Numbers" "op" "[I" ∈ wsX4_add := by decide +kernel
theorem zw_X4_add_86 : Cond.fieldLink RX4 18 "ShortEnough$Numbers" "fixedAs" "[I" ∈ wsX4_add := by decide +kernel
theorem zw_X4_add_87 : Cond.fieldLink RX4 21 "ShortEnough$Numbers" "allowed" "[I" ∈ wsX4_add := by decide +kernel
theorem zw_X4_add_88 : Cond.fieldLink RX4 27 "ShortEnough$Numbers" "joined" "[I" ∈ wsX4_add := by decide +kernel
theorem zw_X4_add_89 : Cond.fieldLink RX4 24 "ShortEnough$Numbers" "lets" "[I" ∈ wsX4_add := by decide +kernel
theorem zw_X4_add_90 : Cond.methodLink RX4 44 Lib.Math.max.name ∈ wsX4_add := by decide +kernel
theorem zw_X4_add_91 : Cond.static Lib.Math.max.name ∈ wsX4_add := by decide +kernel
theorem zw_X4_add_92 : Cond.initialized "java/lang/Math" ∈ wsX4_add := by decide +kernel
theorem zw_X4_add_93 : Cond.code Lib.Math.max.name Lib.Math.max.code 2 (some .int) ∈ wsX4_add := by decide +kernel
theorem zw_X4_add_94 : Cond.fieldLink RX4 50 "ShortEnough$Numbers" "inputs" "I" ∈ wsX4_add := by decide +kernel
theorem zn_X4_madeFrom_X4 : ∀ w ∈ wsX40, w ∈ wsX4_madeFrom := fun _ h => List.mem_cons_of_mem _ (List.mem_append_right _ h)
theorem zw_X4_madeFrom_96 : Cond.fieldLink RX4 36 "ShortEnough$Numbers" "count" "I" ∈ wsX4_madeFrom := by decide +kernel
theorem zn_X9_castsOf_X9 : ∀ w ∈ wsX90, w ∈ wsX9_castsOf := fun _ h => List.mem_cons_of_mem _ (List.mem_append_left _ (List.mem_append_left _ (List.mem_append_right _ h)))
theorem zw_X9_castsOf_98 : Cond.fieldLink RX9 27 "ShortEnough$Task" "numbers" "LShortEnough$Numbers;" ∈ wsX9_castsOf := by decide +kernel
theorem zn_X9_castsOf_X4 : ∀ w ∈ wsX40, w ∈ wsX9_castsOf := fun _ h => List.mem_cons_of_mem _ (List.mem_append_left _ (List.mem_append_right _ h))
theorem zw_X9_castsOf_100 : Cond.fieldLink RX9 52 "ShortEnough$Numbers" "count" "I" ∈ wsX9_castsOf := by decide +kernel
theorem zn_X9_priceOf_X9 : ∀ w ∈ wsX90, w ∈ wsX9_priceOf := fun _ h => List.mem_cons_of_mem _ (List.mem_append_left _ (List.mem_append_left _ (List.mem_append_right _ h)))
theorem zw_X9_priceOf_102 : Cond.fieldLink RX9 49 "ShortEnough$Task" "castPrice" "I" ∈ wsX9_priceOf := by decide +kernel
theorem zw_X9_priceOf_103 : Cond.fieldLink RX9 27 "ShortEnough$Task" "numbers" "LShortEnough$Numbers;" ∈ wsX9_priceOf := by decide +kernel
theorem zn_X9_priceOf_X4 : ∀ w ∈ wsX40, w ∈ wsX9_priceOf := fun _ h => List.mem_cons_of_mem _ (List.mem_append_left _ (List.mem_append_right _ h))
theorem zw_X9_priceOf_105 : Cond.fieldLink RX9 52 "ShortEnough$Numbers" "count" "I" ∈ wsX9_priceOf := by decide +kernel
theorem zw_X9_priceOf_106 : Cond.fieldLink RX9 21 "ShortEnough$Task" "price" "[I" ∈ wsX9_priceOf := by decide +kernel
theorem zn_X9_addFormat_X9 : ∀ w ∈ wsX90, w ∈ wsX9_addFormat := fun _ h => List.mem_cons_of_mem _ (List.mem_append_right _ h)
theorem zw_X9_addFormat_108 : Cond.fieldLink RX9 45 "ShortEnough$Task" "formats" "I" ∈ wsX9_addFormat := by decide +kernel
theorem zw_X9_addFormat_109 : Cond.fieldLink RX9 9 "ShortEnough$Task" "formatName" "[I" ∈ wsX9_addFormat := by decide +kernel
theorem zw_X9_addFormat_110 : Cond.fieldLink RX9 15 "ShortEnough$Task" "step" "[I" ∈ wsX9_addFormat := by decide +kernel
theorem zw_X9_addFormat_111 : Cond.fieldLink RX9 18 "ShortEnough$Task" "most" "[I" ∈ wsX9_addFormat := by decide +kernel
theorem zw_X9_addFormat_112 : Cond.fieldLink RX9 21 "ShortEnough$Task" "price" "[I" ∈ wsX9_addFormat := by decide +kernel
theorem zn_X9_clear_X9 : ∀ w ∈ wsX90, w ∈ wsX9_clear := fun _ h => List.mem_cons_of_mem _ (List.mem_append_left _ (List.mem_append_right _ h))
theorem zw_X9_clear_114 : Cond.fieldLink RX9 45 "ShortEnough$Task" "formats" "I" ∈ wsX9_clear := by decide +kernel
theorem zw_X9_clear_115 : Cond.fieldLink RX9 49 "ShortEnough$Task" "castPrice" "I" ∈ wsX9_clear := by decide +kernel
theorem zw_X9_clear_116 : Cond.fieldLink RX9 27 "ShortEnough$Task" "numbers" "LShortEnough$Numbers;" ∈ wsX9_clear := by decide +kernel
theorem zn_X9_clear_X4 : ∀ w ∈ wsX40, w ∈ wsX9_clear := fun _ h => List.mem_cons_of_mem _ (List.mem_append_right _ h)
theorem zw_X9_clear_118 : Cond.fieldLink RX9 52 "ShortEnough$Numbers" "count" "I" ∈ wsX9_clear := by decide +kernel
theorem zw_X9_clear_119 : Cond.fieldLink RX9 55 "ShortEnough$Numbers" "inputs" "I" ∈ wsX9_clear := by decide +kernel
theorem zn_X2_earlierGroup_X4 : ∀ w ∈ wsX40, w ∈ wsX2_earlierGroup := fun _ h => List.mem_cons_of_mem _ (List.mem_append_left _ (List.mem_append_right _ h))
theorem zw_X2_earlierGroup_121 : Cond.fieldLink RX2 44 "ShortEnough$Numbers" "joined" "[I" ∈ wsX2_earlierGroup := by decide +kernel
theorem zn_X2_earlierGroup_X2 : ∀ w ∈ wsX20, w ∈ wsX2_earlierGroup := fun _ h => List.mem_cons_of_mem _ (List.mem_append_right _ h)
theorem zw_X2_earlierGroup_123 : Cond.fieldLink RX2 9 "ShortEnough$Groups" "of" "[I" ∈ wsX2_earlierGroup := by decide +kernel
theorem zn_X2_fix_X2 : ∀ w ∈ wsX20, w ∈ wsX2_fix := fun _ h => List.mem_cons_of_mem _ (List.mem_append_right _ h)
theorem zw_X2_fix_125 : Cond.fieldLink RX2 15 "ShortEnough$Groups" "fixedAs" "[I" ∈ wsX2_fix := by decide +kernel
theorem zw_X2_fix_126 : Cond.fieldLink RX2 25 "ShortEnough$Groups" "clash" "Z" ∈ wsX2_fix := by decide +kernel
theorem zn_X2_gather_X2 : ∀ w ∈ wsX20, w ∈ wsX2_gather := fun _ h => List.mem_cons_of_mem _ (List.mem_append_left _ (List.mem_append_right _ h))
theorem zw_X2_gather_128 : Cond.fieldLink RX2 21 "ShortEnough$Groups" "count" "I" ∈ wsX2_gather := by decide +kernel
theorem zw_X2_gather_129 : Cond.fieldLink RX2 25 "ShortEnough$Groups" "clash" "Z" ∈ wsX2_gather := by decide +kernel
theorem zn_X2_gather_X4 : ∀ w ∈ wsX40, w ∈ wsX2_gather := fun _ h => List.mem_cons_of_mem _ (List.mem_append_right _ h)
theorem zw_X2_gather_131 : Cond.fieldLink RX2 29 "ShortEnough$Numbers" "count" "I" ∈ wsX2_gather := by decide +kernel
theorem zw_X2_gather_132 : Cond.fieldLink RX2 41 "ShortEnough$Groups" "free" "I" ∈ wsX2_gather := by decide +kernel
theorem zw_X2_gather_133 : Cond.fieldLink RX2 9 "ShortEnough$Groups" "of" "[I" ∈ wsX2_gather := by decide +kernel
theorem zw_X2_gather_134 : Cond.fieldLink RX2 36 "ShortEnough$Numbers" "fixedAs" "[I" ∈ wsX2_gather := by decide +kernel
theorem zw_X2_gather_135 : Cond.fieldLink RX2 18 "ShortEnough$Groups" "leader" "[I" ∈ wsX2_gather := by decide +kernel
theorem zw_X2_gather_136 : Cond.fieldLink RX2 15 "ShortEnough$Groups" "fixedAs" "[I" ∈ wsX2_gather := by decide +kernel
theorem zn_X11_refuse_X11 : ∀ w ∈ wsX110, w ∈ wsX11_refuse := fun _ h => List.mem_cons_of_mem _ (List.mem_append_right _ h)
theorem zw_X11_refuse_138 : Cond.fieldLink RX11 13 "ShortEnough" "refused" "[I" ∈ wsX11_refuse := by decide +kernel
theorem zn_X11_putBytes_X11 : ∀ w ∈ wsX110, w ∈ wsX11_putBytes := fun _ h => List.mem_cons_of_mem _ (List.mem_append_right _ h)
theorem zw_X11_putBytes_140 : Cond.fieldLink RX11 89 "ShortEnough" "tapeLength" "I" ∈ wsX11_putBytes := by decide +kernel
theorem zw_X11_putBytes_141 : Cond.fieldLink RX11 9 "ShortEnough" "tape" "[B" ∈ wsX11_putBytes := by decide +kernel
