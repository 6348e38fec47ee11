theorem zw_J0_length_8abf5_0 : Cond.fieldLink RJ0 9 "java/lang/String" "value" "[B" ∈ wsJ0_length_8abf5 := List.mem_of_getElem? (i := 1) rfl
theorem zw_J0_coder_7d493_1 : Cond.fieldLink RJ0 38 "java/lang/String" "COMPACT_STRINGS" "Z" ∈ wsJ0_coder_7d493 := List.mem_of_getElem? (i := 1) rfl
theorem zw_J0_coder_7d493_2 : Cond.fieldLink RJ0 15 "java/lang/String" "coder" "B" ∈ wsJ0_coder_7d493 := List.mem_of_getElem? (i := 2) rfl
theorem zw_J0_isLatin1_aae02_3 : Cond.fieldLink RJ0 38 "java/lang/String" "COMPACT_STRINGS" "Z" ∈ wsJ0_isLatin1_aae02 := List.mem_of_getElem? (i := 1) rfl
theorem zw_J0_isLatin1_aae02_4 : Cond.fieldLink RJ0 15 "java/lang/String" "coder" "B" ∈ wsJ0_isLatin1_aae02 := List.mem_of_getElem? (i := 2) rfl
theorem zw_J0_charAt_5068e_5 : Cond.fieldLink RJ0 9 "java/lang/String" "value" "[B" ∈ wsJ0_charAt_5068e := List.mem_of_getElem? (i := 1) rfl
theorem zw_J0_checkIndex_df160_6 : Cond.fieldLink RJ0 1053 "jdk/internal/util/Preconditions" "SIOOBE_FORMATTER" "Ljava/util/function/BiFunction;" ∈ wsJ0_checkIndex_df160 := List.mem_of_getElem? (i := 1) rfl
theorem zn_X10_init_X10 : ∀ w ∈ wsX100, w ∈ wsX10_init := fun _ h => List.mem_cons_of_mem _ (List.mem_append_right _ h)
theorem zw_X10_init_8 : Cond.fieldLink RX10 11 "ShortEnough$Words" "ownNames" "[I" ∈ wsX10_init := List.mem_of_getElem? (i := 5) rfl
theorem zw_X10_init_9 : Cond.methodLink RX10 3 objectInit ∈ wsX10_init := List.mem_of_getElem? (i := 1) rfl
theorem zw_X10_init_10 : Cond.instanceMethod objectInit ∈ wsX10_init := List.mem_of_getElem? (i := 2) rfl
theorem zw_X10_init_11 : Cond.code objectInit ⟨#[0xb1]⟩ 1 none ∈ wsX10_init := List.mem_of_getElem? (i := 3) rfl
theorem zw_X10_init_12 : Cond.arrayClass .int ∈ wsX10_init := List.mem_of_getElem? (i := 4) rfl
theorem zw_X10_init_13 : Cond.arrayClass .byte ∈ wsX10_init := List.mem_of_getElem? (i := 6) rfl
theorem zw_X10_init_14 : Cond.fieldLink RX10 15 "ShortEnough$Words" "text" "[B" ∈ wsX10_init := List.mem_of_getElem? (i := 7) rfl
theorem zw_X11_init_15 : Cond.methodLink RX11 1 objectInit ∈ wsX11_init := List.mem_of_getElem? (i := 1) rfl
theorem zw_X11_init_16 : Cond.instanceMethod objectInit ∈ wsX11_init := List.mem_of_getElem? (i := 2) rfl
theorem zw_X11_init_17 : Cond.code objectInit ⟨#[0xb1]⟩ 1 none ∈ wsX11_init := List.mem_of_getElem? (i := 3) rfl
theorem zw_X11_init_18 : Cond.arrayClass .byte ∈ wsX11_init := List.mem_of_getElem? (i := 4) rfl
theorem zn_X11_init_X11 : ∀ w ∈ wsX110, w ∈ wsX11_init := fun _ h => List.mem_cons_of_mem _ (List.mem_append_left _ (List.mem_append_left _ (List.mem_append_left _ (List.mem_append_left _ (List.mem_append_left _ (List.mem_append_left _ (List.mem_append_left _ (List.mem_append_left _ (List.mem_append_left _ (List.mem_append_left _ (List.mem_append_left _ (List.mem_append_right _ h))))))))))))
theorem zw_X11_init_20 : Cond.fieldLink RX11 9 "ShortEnough" "tape" "[B" ∈ wsX11_init := List.mem_of_getElem? (i := 5) rfl
theorem zw_X11_init_21 : Cond.arrayClass .int ∈ wsX11_init := List.mem_of_getElem? (i := 6) rfl
theorem zw_X11_init_22 : Cond.fieldLink RX11 13 "ShortEnough" "refused" "[I" ∈ wsX11_init := List.mem_of_getElem? (i := 7) rfl
theorem zn_X11_init_X5 : ∀ w ∈ wsX50, w ∈ wsX11_init := fun _ h => List.mem_cons_of_mem _ (List.mem_append_left _ (List.mem_append_left _ (List.mem_append_left _ (List.mem_append_left _ (List.mem_append_left _ (List.mem_append_left _ (List.mem_append_left _ (List.mem_append_left _ (List.mem_append_left _ (List.mem_append_left _ (List.mem_append_right _ h)))))))))))
theorem zw_X11_init_24 : Cond.classLink RX11 17 RX5 ∈ wsX11_init := List.mem_of_getElem? (i := 8) rfl
theorem zw_X11_init_25 : Cond.instantiable RX5 4 ∈ wsX11_init := List.mem_of_getElem? (i := 9) rfl
theorem zw_X11_init_26 : Cond.initialized RX5 ∈ wsX11_init := List.mem_of_getElem? (i := 10) rfl
theorem zw_X5_init_27 : Cond.methodLink RX5 3 objectInit ∈ wsX5_init := List.mem_of_getElem? (i := 1) rfl
theorem zw_X5_init_28 : Cond.instanceMethod objectInit ∈ wsX5_init := List.mem_of_getElem? (i := 2) rfl
theorem zw_X5_init_29 : Cond.code objectInit ⟨#[0xb1]⟩ 1 none ∈ wsX5_init := List.mem_of_getElem? (i := 3) rfl
theorem zn_X5_init_X10 : ∀ w ∈ wsX100, w ∈ wsX5_init := fun _ h => List.mem_cons_of_mem _ (List.mem_append_left _ (List.mem_append_right _ h))
theorem zw_X5_init_31 : Cond.classLink RX5 9 RX10 ∈ wsX5_init := List.mem_of_getElem? (i := 4) rfl
theorem zw_X5_init_32 : Cond.instantiable RX10 8 ∈ wsX5_init := List.mem_of_getElem? (i := 5) rfl
theorem zw_X5_init_33 : Cond.initialized RX10 ∈ wsX5_init := List.mem_of_getElem? (i := 6) rfl
theorem zw_X5_init_34 : Cond.methodLink RX5 11 yX10_init ∈ wsX5_init := List.mem_of_getElem? (i := 9) rfl
theorem zw_X5_init_35 : Cond.instanceMethod yX10_init ∈ wsX5_init := List.mem_of_getElem? (i := 10) rfl
theorem zn_X5_init_X5 : ∀ w ∈ wsX50, w ∈ wsX5_init := fun _ h => List.mem_cons_of_mem _ (List.mem_append_right _ h)
theorem zw_X5_init_37 : Cond.fieldLink RX5 12 "ShortEnough$Parser" "words" "LShortEnough$Words;" ∈ wsX5_init := List.mem_of_getElem? (i := 7) rfl
theorem zw_X5_init_38 : Cond.fieldLink RX5 18 "ShortEnough$Parser" "faultPlace" "I" ∈ wsX5_init := List.mem_of_getElem? (i := 8) rfl
theorem zw_X11_init_39 : Cond.instanceMethod yX5_init ∈ wsX11_init := List.mem_of_getElem? (i := 45) rfl
theorem zw_X11_init_40 : Cond.fieldLink RX11 20 "ShortEnough" "parser" "LShortEnough$Parser;" ∈ wsX11_init := List.mem_of_getElem? (i := 11) rfl
theorem zn_X11_init_X9 : ∀ w ∈ wsX90, w ∈ wsX11_init := fun _ h => List.mem_cons_of_mem _ (List.mem_append_left _ (List.mem_append_left _ (List.mem_append_left _ (List.mem_append_left _ (List.mem_append_left _ (List.mem_append_left _ (List.mem_append_left _ (List.mem_append_left _ (List.mem_append_left _ (List.mem_append_right _ h))))))))))
theorem zw_X11_init_42 : Cond.classLink RX11 24 RX9 ∈ wsX11_init := List.mem_of_getElem? (i := 12) rfl
theorem zw_X11_init_43 : Cond.instantiable RX9 9 ∈ wsX11_init := List.mem_of_getElem? (i := 13) rfl
theorem zw_X11_init_44 : Cond.initialized RX9 ∈ wsX11_init := List.mem_of_getElem? (i := 14) rfl
theorem zw_X9_init_45 : Cond.methodLink RX9 3 objectInit ∈ wsX9_init := List.mem_of_getElem? (i := 1) rfl
theorem zw_X9_init_46 : Cond.instanceMethod objectInit ∈ wsX9_init := List.mem_of_getElem? (i := 2) rfl
theorem zw_X9_init_47 : Cond.code objectInit ⟨#[0xb1]⟩ 1 none ∈ wsX9_init := List.mem_of_getElem? (i := 3) rfl
theorem zw_X9_init_48 : Cond.arrayClass .int ∈ wsX9_init := List.mem_of_getElem? (i := 4) rfl
theorem zn_X9_init_X9 : ∀ w ∈ wsX90, w ∈ wsX9_init := fun _ h => List.mem_cons_of_mem _ (List.mem_append_left _ (List.mem_append_left _ (List.mem_append_left _ (List.mem_append_right _ h))))
theorem zw_X9_init_50 : Cond.fieldLink RX9 9 "ShortEnough$Task" "formatName" "[I" ∈ wsX9_init := List.mem_of_getElem? (i := 5) rfl
theorem zw_X9_init_51 : Cond.fieldLink RX9 15 "ShortEnough$Task" "step" "[I" ∈ wsX9_init := List.mem_of_getElem? (i := 6) rfl
theorem zw_X9_init_52 : Cond.fieldLink RX9 18 "ShortEnough$Task" "most" "[I" ∈ wsX9_init := List.mem_of_getElem? (i := 7) rfl
theorem zw_X9_init_53 : Cond.fieldLink RX9 21 "ShortEnough$Task" "price" "[I" ∈ wsX9_init := List.mem_of_getElem? (i := 8) rfl
theorem zn_X9_init_X4 : ∀ w ∈ wsX40, w ∈ wsX9_init := fun _ h => List.mem_cons_of_mem _ (List.mem_append_left _ (List.mem_append_left _ (List.mem_append_right _ h)))
theorem zw_X9_init_55 : Cond.classLink RX9 24 RX4 ∈ wsX9_init := List.mem_of_getElem? (i := 9) rfl
theorem zw_X9_init_56 : Cond.instantiable RX4 10 ∈ wsX9_init := List.mem_of_getElem? (i := 10) rfl
theorem zw_X9_init_57 : Cond.initialized RX4 ∈ wsX9_init := List.mem_of_getElem? (i := 11) rfl
theorem zw_X4_init_58 : Cond.methodLink RX4 3 objectInit ∈ wsX4_init := List.mem_of_getElem? (i := 1) rfl
theorem zw_X4_init_59 : Cond.instanceMethod objectInit ∈ wsX4_init := List.mem_of_getElem? (i := 2) rfl
theorem zw_X4_init_60 : Cond.code objectInit ⟨#[0xb1]⟩ 1 none ∈ wsX4_init := List.mem_of_getElem? (i := 3) rfl
theorem zw_X4_init_61 : Cond.arrayClass .int ∈ wsX4_init := List.mem_of_getElem? (i := 4) rfl
theorem zn_X4_init_X4 : ∀ w ∈ wsX40, w ∈ wsX4_init := fun _ h => List.mem_cons_of_mem _ (List.mem_append_right _ h)
theorem zw_X4_init_63 : Cond.fieldLink RX4 9 "ShortEnough$Numbers" "name" "[I" ∈ wsX4_init := List.mem_of_getElem? (i := 5) rfl
theorem zw_X4_init_64 : Cond.fieldLink RX4 15 "ShortEnough$Numbers" "op" "[I" ∈ wsX4_init := List.mem_of_getElem? (i := 6) rfl
theorem zw_X4_init_65 : Cond.fieldLink RX4 18 "ShortEnough$Numbers" "fixedAs" "[I" ∈ wsX4_init := List.mem_of_getElem? (i := 7) rfl
theorem zw_X4_init_66 : Cond.fieldLink RX4 21 "ShortEnough$Numbers" "allowed" "[I" ∈ wsX4_init := List.mem_of_getElem? (i := 8) rfl
theorem zw_X4_init_67 : Cond.fieldLink RX4 24 "ShortEnough$Numbers" "lets" "[I" ∈ wsX4_init := List.mem_of_getElem? (i := 9) rfl
theorem zw_X4_init_68 : Cond.fieldLink RX4 27 "ShortEnough$Numbers" "joined" "[I" ∈ wsX4_init := List.mem_of_getElem? (i := 10) rfl
theorem zw_X4_init_69 : Cond.fieldLink RX4 30 "ShortEnough$Numbers" "made" "[I" ∈ wsX4_init := List.mem_of_getElem? (i := 11) rfl
theorem zw_X4_init_70 : Cond.fieldLink RX4 33 "ShortEnough$Numbers" "amount" "[I" ∈ wsX4_init := List.mem_of_getElem? (i := 12) rfl
theorem zw_X9_init_71 : Cond.instanceMethod yX4_init ∈ wsX9_init := List.mem_of_getElem? (i := 21) rfl
theorem zw_X9_init_72 : Cond.fieldLink RX9 27 "ShortEnough$Task" "numbers" "LShortEnough$Numbers;" ∈ wsX9_init := List.mem_of_getElem? (i := 12) rfl
theorem zn_X9_init_X2 : ∀ w ∈ wsX20, w ∈ wsX9_init := fun _ h => List.mem_cons_of_mem _ (List.mem_append_left _ (List.mem_append_right _ h))
theorem zw_X9_init_74 : Cond.classLink RX9 31 RX2 ∈ wsX9_init := List.mem_of_getElem? (i := 13) rfl
theorem zw_X9_init_75 : Cond.instantiable RX2 6 ∈ wsX9_init := List.mem_of_getElem? (i := 14) rfl
theorem zw_X9_init_76 : Cond.initialized RX2 ∈ wsX9_init := List.mem_of_getElem? (i := 15) rfl
theorem zw_X2_init_77 : Cond.methodLink RX2 3 objectInit ∈ wsX2_init := List.mem_of_getElem? (i := 1) rfl
theorem zw_X2_init_78 : Cond.instanceMethod objectInit ∈ wsX2_init := List.mem_of_getElem? (i := 2) rfl
theorem zw_X2_init_79 : Cond.code objectInit ⟨#[0xb1]⟩ 1 none ∈ wsX2_init := List.mem_of_getElem? (i := 3) rfl
theorem zw_X2_init_80 : Cond.arrayClass .int ∈ wsX2_init := List.mem_of_getElem? (i := 4) rfl
theorem zn_X2_init_X2 : ∀ w ∈ wsX20, w ∈ wsX2_init := fun _ h => List.mem_cons_of_mem _ (List.mem_append_right _ h)
theorem zw_X2_init_82 : Cond.fieldLink RX2 9 "ShortEnough$Groups" "of" "[I" ∈ wsX2_init := List.mem_of_getElem? (i := 5) rfl
theorem zw_X2_init_83 : Cond.fieldLink RX2 15 "ShortEnough$Groups" "fixedAs" "[I" ∈ wsX2_init := List.mem_of_getElem? (i := 6) rfl
theorem zw_X2_init_84 : Cond.fieldLink RX2 18 "ShortEnough$Groups" "leader" "[I" ∈ wsX2_init := List.mem_of_getElem? (i := 7) rfl
theorem zw_X9_init_85 : Cond.instanceMethod yX2_init ∈ wsX9_init := List.mem_of_getElem? (i := 32) rfl
theorem zw_X9_init_86 : Cond.fieldLink RX9 34 "ShortEnough$Task" "groups" "LShortEnough$Groups;" ∈ wsX9_init := List.mem_of_getElem? (i := 16) rfl
theorem zn_X9_init_X6 : ∀ w ∈ wsX60, w ∈ wsX9_init := fun _ h => List.mem_cons_of_mem _ (List.mem_append_right _ h)
theorem zw_X9_init_88 : Cond.classLink RX9 38 RX6 ∈ wsX9_init := List.mem_of_getElem? (i := 17) rfl
theorem zw_X9_init_89 : Cond.instantiable RX6 3 ∈ wsX9_init := List.mem_of_getElem? (i := 18) rfl
theorem zw_X9_init_90 : Cond.initialized RX6 ∈ wsX9_init := List.mem_of_getElem? (i := 19) rfl
theorem zw_X6_init_91 : Cond.methodLink RX6 3 objectInit ∈ wsX6_init := List.mem_of_getElem? (i := 1) rfl
theorem zw_X6_init_92 : Cond.instanceMethod objectInit ∈ wsX6_init := List.mem_of_getElem? (i := 2) rfl
theorem zw_X6_init_93 : Cond.code objectInit ⟨#[0xb1]⟩ 1 none ∈ wsX6_init := List.mem_of_getElem? (i := 3) rfl
theorem zw_X6_init_94 : Cond.arrayClass .long ∈ wsX6_init := List.mem_of_getElem? (i := 4) rfl
theorem zn_X6_init_X6 : ∀ w ∈ wsX60, w ∈ wsX6_init := fun _ h => List.mem_cons_of_mem _ (List.mem_append_right _ h)
theorem zw_X6_init_96 : Cond.fieldLink RX6 9 "ShortEnough$Ranges" "low" "[J" ∈ wsX6_init := List.mem_of_getElem? (i := 5) rfl
theorem zw_X6_init_97 : Cond.fieldLink RX6 15 "ShortEnough$Ranges" "high" "[J" ∈ wsX6_init := List.mem_of_getElem? (i := 6) rfl
theorem zw_X6_init_98 : Cond.arrayClass .boolean ∈ wsX6_init := List.mem_of_getElem? (i := 7) rfl
theorem zw_X6_init_99 : Cond.fieldLink RX6 18 "ShortEnough$Ranges" "wide" "[Z" ∈ wsX6_init := List.mem_of_getElem? (i := 8) rfl
theorem zw_X9_init_100 : Cond.instanceMethod yX6_init ∈ wsX9_init := List.mem_of_getElem? (i := 38) rfl
theorem zw_X9_init_101 : Cond.fieldLink RX9 41 "ShortEnough$Task" "ranges" "LShortEnough$Ranges;" ∈ wsX9_init := List.mem_of_getElem? (i := 20) rfl
theorem zw_X11_init_102 : Cond.instanceMethod yX9_init ∈ wsX11_init := List.mem_of_getElem? (i := 108) (by decide +kernel)
theorem zw_X11_init_103 : Cond.fieldLink RX11 27 "ShortEnough" "current" "LShortEnough$Task;" ∈ wsX11_init := List.mem_of_getElem? (i := 15) rfl
theorem zw_X11_init_104 : Cond.fieldLink RX11 31 "ShortEnough" "spare" "LShortEnough$Task;" ∈ wsX11_init := List.mem_of_getElem? (i := 16) rfl
theorem zw_X11_init_105 : Cond.fieldLink RX11 34 "ShortEnough" "hand" "[I" ∈ wsX11_init := List.mem_of_getElem? (i := 17) rfl
theorem zw_X11_init_106 : Cond.fieldLink RX11 37 "ShortEnough" "other" "[I" ∈ wsX11_init := List.mem_of_getElem? (i := 18) rfl
theorem zn_X11_init_X7 : ∀ w ∈ wsX70, w ∈ wsX11_init := fun _ h => List.mem_cons_of_mem _ (List.mem_append_left _ (List.mem_append_left _ (List.mem_append_left _ (List.mem_append_left _ (List.mem_append_left _ (List.mem_append_left _ (List.mem_append_left _ (List.mem_append_left _ (List.mem_append_right _ h)))))))))
theorem zw_X11_init_108 : Cond.classLink RX11 40 RX7 ∈ wsX11_init := List.mem_of_getElem? (i := 19) rfl
theorem zw_X11_init_109 : Cond.instantiable RX7 3 ∈ wsX11_init := List.mem_of_getElem? (i := 20) rfl
theorem zw_X11_init_110 : Cond.initialized RX7 ∈ wsX11_init := List.mem_of_getElem? (i := 21) rfl
theorem zw_X7_init_111 : Cond.methodLink RX7 3 objectInit ∈ wsX7_init := List.mem_of_getElem? (i := 1) rfl
theorem zw_X7_init_112 : Cond.instanceMethod objectInit ∈ wsX7_init := List.mem_of_getElem? (i := 2) rfl
theorem zw_X7_init_113 : Cond.code objectInit ⟨#[0xb1]⟩ 1 none ∈ wsX7_init := List.mem_of_getElem? (i := 3) rfl
theorem zw_X7_init_114 : Cond.arrayClass .long ∈ wsX7_init := List.mem_of_getElem? (i := 4) rfl
theorem zn_X7_init_X7 : ∀ w ∈ wsX70, w ∈ wsX7_init := fun _ h => List.mem_cons_of_mem _ (List.mem_append_right _ h)
theorem zw_X7_init_116 : Cond.fieldLink RX7 9 "ShortEnough$Reckoning" "errors" "[J" ∈ wsX7_init := List.mem_of_getElem? (i := 5) rfl
theorem zw_X11_init_117 : Cond.instanceMethod yX7_init ∈ wsX11_init := List.mem_of_getElem? (i := 150) (by decide +kernel)
theorem zw_X11_init_118 : Cond.fieldLink RX11 43 "ShortEnough" "reckoning" "LShortEnough$Reckoning;" ∈ wsX11_init := List.mem_of_getElem? (i := 22) rfl
theorem zw_X11_init_119 : Cond.fieldLink RX11 47 "ShortEnough" "otherReckoning" "LShortEnough$Reckoning;" ∈ wsX11_init := List.mem_of_getElem? (i := 23) rfl
theorem zn_X11_init_X6 : ∀ w ∈ wsX60, w ∈ wsX11_init := fun _ h => List.mem_cons_of_mem _ (List.mem_append_left _ (List.mem_append_left _ (List.mem_append_left _ (List.mem_append_left _ (List.mem_append_left _ (List.mem_append_left _ (List.mem_append_left _ (List.mem_append_right _ h))))))))
theorem zw_X11_init_121 : Cond.classLink RX11 50 RX6 ∈ wsX11_init := List.mem_of_getElem? (i := 24) rfl
theorem zw_X11_init_122 : Cond.instantiable RX6 3 ∈ wsX11_init := List.mem_of_getElem? (i := 25) rfl
theorem zw_X11_init_123 : Cond.initialized RX6 ∈ wsX11_init := List.mem_of_getElem? (i := 26) rfl
theorem zw_X11_init_124 : Cond.instanceMethod yX6_init ∈ wsX11_init := List.mem_of_getElem? (i := 142) (by decide +kernel)
theorem zw_X11_init_125 : Cond.fieldLink RX11 53 "ShortEnough" "longerRanges" "LShortEnough$Ranges;" ∈ wsX11_init := List.mem_of_getElem? (i := 27) rfl
theorem zn_X11_init_X1 : ∀ w ∈ wsX10, w ∈ wsX11_init := fun _ h => List.mem_cons_of_mem _ (List.mem_append_left _ (List.mem_append_left _ (List.mem_append_left _ (List.mem_append_left _ (List.mem_append_left _ (List.mem_append_left _ (List.mem_append_right _ h)))))))
theorem zw_X11_init_127 : Cond.classLink RX11 57 RX1 ∈ wsX11_init := List.mem_of_getElem? (i := 28) rfl
theorem zw_X11_init_128 : Cond.instantiable RX1 14 ∈ wsX11_init := List.mem_of_getElem? (i := 29) rfl
theorem zw_X11_init_129 : Cond.initialized RX1 ∈ wsX11_init := List.mem_of_getElem? (i := 30) rfl
theorem zw_X1_init_130 : Cond.methodLink RX1 3 objectInit ∈ wsX1_init := List.mem_of_getElem? (i := 1) rfl
theorem zw_X1_init_131 : Cond.instanceMethod objectInit ∈ wsX1_init := List.mem_of_getElem? (i := 2) rfl
theorem zw_X1_init_132 : Cond.code objectInit ⟨#[0xb1]⟩ 1 none ∈ wsX1_init := List.mem_of_getElem? (i := 3) rfl
theorem zn_X1_init_X7 : ∀ w ∈ wsX70, w ∈ wsX1_init := fun _ h => List.mem_cons_of_mem _ (List.mem_append_left _ (List.mem_append_right _ h))
theorem zw_X1_init_134 : Cond.classLink RX1 9 RX7 ∈ wsX1_init := List.mem_of_getElem? (i := 4) rfl
theorem zw_X1_init_135 : Cond.instantiable RX7 3 ∈ wsX1_init := List.mem_of_getElem? (i := 5) rfl
theorem zw_X1_init_136 : Cond.initialized RX7 ∈ wsX1_init := List.mem_of_getElem? (i := 6) rfl
theorem zw_X1_init_137 : Cond.instanceMethod yX7_init ∈ wsX1_init := List.mem_of_getElem? (i := 17) rfl
theorem zn_X1_init_X1 : ∀ w ∈ wsX10, w ∈ wsX1_init := fun _ h => List.mem_cons_of_mem _ (List.mem_append_right _ h)
theorem zw_X1_init_139 : Cond.fieldLink RX1 12 "ShortEnough$FullSearch" "reckoning" "LShortEnough$Reckoning;" ∈ wsX1_init := List.mem_of_getElem? (i := 7) rfl
theorem zw_X1_init_140 : Cond.arrayClass .int ∈ wsX1_init := List.mem_of_getElem? (i := 8) rfl
theorem zw_X1_init_141 : Cond.fieldLink RX1 18 "ShortEnough$FullSearch" "choice" "[I" ∈ wsX1_init := List.mem_of_getElem? (i := 9) rfl
theorem zw_X1_init_142 : Cond.fieldLink RX1 22 "ShortEnough$FullSearch" "prices" "[I" ∈ wsX1_init := List.mem_of_getElem? (i := 10) rfl
theorem zw_X1_init_143 : Cond.fieldLink RX1 25 "ShortEnough$FullSearch" "errors" "[I" ∈ wsX1_init := List.mem_of_getElem? (i := 11) rfl
theorem zw_X1_init_144 : Cond.fieldLink RX1 28 "ShortEnough$FullSearch" "best" "I" ∈ wsX1_init := List.mem_of_getElem? (i := 12) rfl
theorem zw_X1_init_145 : Cond.fieldLink RX1 32 "ShortEnough$FullSearch" "frontOf" "I" ∈ wsX1_init := List.mem_of_getElem? (i := 13) rfl
theorem zw_X1_init_146 : Cond.fieldLink RX1 35 "ShortEnough$FullSearch" "frontPrice" "[I" ∈ wsX1_init := List.mem_of_getElem? (i := 14) rfl
theorem zw_X1_init_147 : Cond.fieldLink RX1 38 "ShortEnough$FullSearch" "frontError" "[I" ∈ wsX1_init := List.mem_of_getElem? (i := 15) rfl
theorem zw_X1_init_148 : Cond.fieldLink RX1 41 "ShortEnough$FullSearch" "frontMany" "[I" ∈ wsX1_init := List.mem_of_getElem? (i := 16) rfl
theorem zw_X11_init_149 : Cond.instanceMethod yX1_init ∈ wsX11_init := List.mem_of_getElem? (i := 154) (by decide +kernel)
theorem zw_X11_init_150 : Cond.fieldLink RX11 60 "ShortEnough" "full" "LShortEnough$FullSearch;" ∈ wsX11_init := List.mem_of_getElem? (i := 31) rfl
theorem zn_X11_init_X3 : ∀ w ∈ wsX30, w ∈ wsX11_init := fun _ h => List.mem_cons_of_mem _ (List.mem_append_left _ (List.mem_append_left _ (List.mem_append_left _ (List.mem_append_left _ (List.mem_append_left _ (List.mem_append_right _ h))))))
theorem zw_X11_init_152 : Cond.classLink RX11 64 RX3 ∈ wsX11_init := List.mem_of_getElem? (i := 32) rfl
theorem zw_X11_init_153 : Cond.instantiable RX3 16 ∈ wsX11_init := List.mem_of_getElem? (i := 33) rfl
theorem zw_X11_init_154 : Cond.initialized RX3 ∈ wsX11_init := List.mem_of_getElem? (i := 34) rfl
theorem zw_X3_init_155 : Cond.methodLink RX3 3 objectInit ∈ wsX3_init := List.mem_of_getElem? (i := 1) rfl
theorem zw_X3_init_156 : Cond.instanceMethod objectInit ∈ wsX3_init := List.mem_of_getElem? (i := 2) rfl
theorem zw_X3_init_157 : Cond.code objectInit ⟨#[0xb1]⟩ 1 none ∈ wsX3_init := List.mem_of_getElem? (i := 3) rfl
theorem zn_X3_init_X7 : ∀ w ∈ wsX70, w ∈ wsX3_init := fun _ h => List.mem_cons_of_mem _ (List.mem_append_left _ (List.mem_append_right _ h))
theorem zw_X3_init_159 : Cond.classLink RX3 9 RX7 ∈ wsX3_init := List.mem_of_getElem? (i := 4) rfl
theorem zw_X3_init_160 : Cond.instantiable RX7 3 ∈ wsX3_init := List.mem_of_getElem? (i := 5) rfl
theorem zw_X3_init_161 : Cond.initialized RX7 ∈ wsX3_init := List.mem_of_getElem? (i := 6) rfl
theorem zw_X3_init_162 : Cond.instanceMethod yX7_init ∈ wsX3_init := List.mem_of_getElem? (i := 18) rfl
theorem zn_X3_init_X3 : ∀ w ∈ wsX30, w ∈ wsX3_init := fun _ h => List.mem_cons_of_mem _ (List.mem_append_right _ h)
theorem zw_X3_init_164 : Cond.fieldLink RX3 12 "ShortEnough$LocalSearch" "reckoning" "LShortEnough$Reckoning;" ∈ wsX3_init := List.mem_of_getElem? (i := 7) rfl
theorem zw_X3_init_165 : Cond.arrayClass .int ∈ wsX3_init := List.mem_of_getElem? (i := 8) rfl
theorem zw_X3_init_166 : Cond.fieldLink RX3 18 "ShortEnough$LocalSearch" "near" "[I" ∈ wsX3_init := List.mem_of_getElem? (i := 9) rfl
theorem zw_X3_init_167 : Cond.arrayClass .boolean ∈ wsX3_init := List.mem_of_getElem? (i := 10) rfl
theorem zw_X3_init_168 : Cond.fieldLink RX3 22 "ShortEnough$LocalSearch" "changed" "[Z" ∈ wsX3_init := List.mem_of_getElem? (i := 11) rfl
theorem zw_X3_init_169 : Cond.fieldLink RX3 26 "ShortEnough$LocalSearch" "unchanged" "[I" ∈ wsX3_init := List.mem_of_getElem? (i := 12) rfl
theorem zw_X3_init_170 : Cond.fieldLink RX3 29 "ShortEnough$LocalSearch" "partFrom" "[I" ∈ wsX3_init := List.mem_of_getElem? (i := 13) rfl
theorem zw_X3_init_171 : Cond.fieldLink RX3 32 "ShortEnough$LocalSearch" "partTo" "[I" ∈ wsX3_init := List.mem_of_getElem? (i := 14) rfl
theorem zw_X3_init_172 : Cond.fieldLink RX3 35 "ShortEnough$LocalSearch" "row" "[I" ∈ wsX3_init := List.mem_of_getElem? (i := 15) rfl
theorem zw_X3_init_173 : Cond.fieldLink RX3 38 "ShortEnough$LocalSearch" "bestGroup" "I" ∈ wsX3_init := List.mem_of_getElem? (i := 16) rfl
theorem zw_X3_init_174 : Cond.fieldLink RX3 42 "ShortEnough$LocalSearch" "bestFormat" "I" ∈ wsX3_init := List.mem_of_getElem? (i := 17) rfl
theorem zw_X11_init_175 : Cond.instanceMethod yX3_init ∈ wsX11_init := List.mem_of_getElem? (i := 167) (by decide +kernel)
theorem zw_X11_init_176 : Cond.fieldLink RX11 67 "ShortEnough" "local" "LShortEnough$LocalSearch;" ∈ wsX11_init := List.mem_of_getElem? (i := 35) rfl
theorem zn_X11_init_X0 : ∀ w ∈ wsX00, w ∈ wsX11_init := fun _ h => List.mem_cons_of_mem _ (List.mem_append_left _ (List.mem_append_left _ (List.mem_append_left _ (List.mem_append_left _ (List.mem_append_right _ h)))))
theorem zw_X11_init_178 : Cond.classLink RX11 71 RX0 ∈ wsX11_init := List.mem_of_getElem? (i := 36) rfl
theorem zw_X11_init_179 : Cond.instantiable RX0 5 ∈ wsX11_init := List.mem_of_getElem? (i := 37) rfl
theorem zw_X11_init_180 : Cond.initialized RX0 ∈ wsX11_init := List.mem_of_getElem? (i := 38) rfl
theorem zw_X0_init_181 : Cond.methodLink RX0 3 objectInit ∈ wsX0_init := List.mem_of_getElem? (i := 1) rfl
theorem zw_X0_init_182 : Cond.instanceMethod objectInit ∈ wsX0_init := List.mem_of_getElem? (i := 2) rfl
theorem zw_X0_init_183 : Cond.code objectInit ⟨#[0xb1]⟩ 1 none ∈ wsX0_init := List.mem_of_getElem? (i := 3) rfl
theorem zn_X0_init_X6 : ∀ w ∈ wsX60, w ∈ wsX0_init := fun _ h => List.mem_cons_of_mem _ (List.mem_append_left _ (List.mem_append_left _ (List.mem_append_right _ h)))
theorem zw_X0_init_185 : Cond.classLink RX0 9 RX6 ∈ wsX0_init := List.mem_of_getElem? (i := 4) rfl
theorem zw_X0_init_186 : Cond.instantiable RX6 3 ∈ wsX0_init := List.mem_of_getElem? (i := 5) rfl
theorem zw_X0_init_187 : Cond.initialized RX6 ∈ wsX0_init := List.mem_of_getElem? (i := 6) rfl
theorem zw_X0_init_188 : Cond.instanceMethod yX6_init ∈ wsX0_init := List.mem_of_getElem? (i := 16) rfl
theorem zn_X0_init_X0 : ∀ w ∈ wsX00, w ∈ wsX0_init := fun _ h => List.mem_cons_of_mem _ (List.mem_append_left _ (List.mem_append_right _ h))
theorem zw_X0_init_190 : Cond.fieldLink RX0 12 "ShortEnough$CertificateReader" "said" "LShortEnough$Ranges;" ∈ wsX0_init := List.mem_of_getElem? (i := 7) rfl
theorem zn_X0_init_X7 : ∀ w ∈ wsX70, w ∈ wsX0_init := fun _ h => List.mem_cons_of_mem _ (List.mem_append_right _ h)
theorem zw_X0_init_192 : Cond.classLink RX0 18 RX7 ∈ wsX0_init := List.mem_of_getElem? (i := 8) rfl
theorem zw_X0_init_193 : Cond.instantiable RX7 3 ∈ wsX0_init := List.mem_of_getElem? (i := 9) rfl
theorem zw_X0_init_194 : Cond.initialized RX7 ∈ wsX0_init := List.mem_of_getElem? (i := 10) rfl
theorem zw_X0_init_195 : Cond.instanceMethod yX7_init ∈ wsX0_init := List.mem_of_getElem? (i := 24) rfl
theorem zw_X0_init_196 : Cond.fieldLink RX0 21 "ShortEnough$CertificateReader" "saidErrors" "LShortEnough$Reckoning;" ∈ wsX0_init := List.mem_of_getElem? (i := 11) rfl
theorem zw_X0_init_197 : Cond.arrayClass .int ∈ wsX0_init := List.mem_of_getElem? (i := 12) rfl
theorem zw_X0_init_198 : Cond.fieldLink RX0 25 "ShortEnough$CertificateReader" "choice" "[I" ∈ wsX0_init := List.mem_of_getElem? (i := 13) rfl
theorem zw_X0_init_199 : Cond.fieldLink RX0 29 "ShortEnough$CertificateReader" "breaksAt" "I" ∈ wsX0_init := List.mem_of_getElem? (i := 14) rfl
theorem zw_X0_init_200 : Cond.fieldLink RX0 33 "ShortEnough$CertificateReader" "reason" "I" ∈ wsX0_init := List.mem_of_getElem? (i := 15) rfl
theorem zw_X11_init_201 : Cond.instanceMethod yX0_init ∈ wsX11_init := List.mem_of_getElem? (i := 180) (by decide +kernel)
theorem zw_X11_init_202 : Cond.fieldLink RX11 74 "ShortEnough" "reader" "LShortEnough$CertificateReader;" ∈ wsX11_init := List.mem_of_getElem? (i := 39) rfl
theorem zn_X11_init_X8 : ∀ w ∈ wsX80, w ∈ wsX11_init := fun _ h => List.mem_cons_of_mem _ (List.mem_append_left _ (List.mem_append_left _ (List.mem_append_left _ (List.mem_append_right _ h))))
theorem zw_X11_init_204 : Cond.classLink RX11 78 RX8 ∈ wsX11_init := List.mem_of_getElem? (i := 40) rfl
theorem zw_X11_init_205 : Cond.instantiable RX8 2 ∈ wsX11_init := List.mem_of_getElem? (i := 41) rfl
theorem zw_X11_init_206 : Cond.initialized RX8 ∈ wsX11_init := List.mem_of_getElem? (i := 42) rfl
theorem zw_X8_init_207 : Cond.methodLink RX8 3 objectInit ∈ wsX8_init := List.mem_of_getElem? (i := 1) rfl
theorem zw_X8_init_208 : Cond.instanceMethod objectInit ∈ wsX8_init := List.mem_of_getElem? (i := 2) rfl
theorem zw_X8_init_209 : Cond.code objectInit ⟨#[0xb1]⟩ 1 none ∈ wsX8_init := List.mem_of_getElem? (i := 3) rfl
theorem zw_X8_init_210 : Cond.arrayClass .long ∈ wsX8_init := List.mem_of_getElem? (i := 4) rfl
theorem zn_X8_init_X8 : ∀ w ∈ wsX80, w ∈ wsX8_init := fun _ h => List.mem_cons_of_mem _ (List.mem_append_right _ h)
theorem zw_X8_init_212 : Cond.fieldLink RX8 9 "ShortEnough$Sampler" "exact" "[J" ∈ wsX8_init := List.mem_of_getElem? (i := 5) rfl
theorem zw_X8_init_213 : Cond.fieldLink RX8 15 "ShortEnough$Sampler" "kept" "[J" ∈ wsX8_init := List.mem_of_getElem? (i := 6) rfl
theorem zw_X11_init_214 : Cond.instanceMethod yX8_init ∈ wsX11_init := List.mem_of_getElem? (i := 190) (by decide +kernel)
theorem zw_X11_init_215 : Cond.fieldLink RX11 81 "ShortEnough" "sampler" "LShortEnough$Sampler;" ∈ wsX11_init := List.mem_of_getElem? (i := 43) rfl
theorem zw_X11_init_216 : Cond.fieldLink RX11 85 "ShortEnough" "seedNow" "I" ∈ wsX11_init := List.mem_of_getElem? (i := 44) rfl
theorem zw_X12_init_217 : Cond.methodLink RX12 1 objectInit ∈ wsX12_init := List.mem_of_getElem? (i := 1) rfl
theorem zw_X12_init_218 : Cond.instanceMethod objectInit ∈ wsX12_init := List.mem_of_getElem? (i := 2) rfl
theorem zw_X12_init_219 : Cond.code objectInit ⟨#[0xb1]⟩ 1 none ∈ wsX12_init := List.mem_of_getElem? (i := 3) rfl
theorem zw_X12_init_220 : Cond.arrayClass .int ∈ wsX12_init := List.mem_of_getElem? (i := 4) rfl
theorem zn_X12_init_X12 : ∀ w ∈ wsX120, w ∈ wsX12_init := fun _ h => List.mem_cons_of_mem _ (List.mem_append_right _ h)
theorem zw_X12_init_222 : Cond.fieldLink RX12 7 "ShortEnoughModel" "tape" "[I" ∈ wsX12_init := List.mem_of_getElem? (i := 5) rfl
theorem zw_X12_init_223 : Cond.fieldLink RX12 13 "ShortEnoughModel" "taped" "I" ∈ wsX12_init := List.mem_of_getElem? (i := 6) rfl
theorem zw_X12_init_224 : Cond.fieldLink RX12 17 "ShortEnoughModel" "refused" "[I" ∈ wsX12_init := List.mem_of_getElem? (i := 7) rfl
theorem zw_X12_init_225 : Cond.fieldLink RX12 20 "ShortEnoughModel" "faultKind" "I" ∈ wsX12_init := List.mem_of_getElem? (i := 8) rfl
theorem zw_X12_init_226 : Cond.fieldLink RX12 23 "ShortEnoughModel" "faultPlace" "I" ∈ wsX12_init := List.mem_of_getElem? (i := 9) rfl
theorem zw_X12_init_227 : Cond.fieldLink RX12 26 "ShortEnoughModel" "size" "I" ∈ wsX12_init := List.mem_of_getElem? (i := 10) rfl
theorem zw_X12_init_228 : Cond.fieldLink RX12 29 "ShortEnoughModel" "at" "I" ∈ wsX12_init := List.mem_of_getElem? (i := 11) rfl
theorem zw_X12_init_229 : Cond.fieldLink RX12 32 "ShortEnoughModel" "begun" "I" ∈ wsX12_init := List.mem_of_getElem? (i := 12) rfl
theorem zw_X12_init_230 : Cond.fieldLink RX12 35 "ShortEnoughModel" "wrong" "I" ∈ wsX12_init := List.mem_of_getElem? (i := 13) rfl
theorem zw_X12_init_231 : Cond.fieldLink RX12 38 "ShortEnoughModel" "wrongAt" "I" ∈ wsX12_init := List.mem_of_getElem? (i := 14) rfl
theorem zw_X12_init_232 : Cond.fieldLink RX12 41 "ShortEnoughModel" "ownLetters" "[I" ∈ wsX12_init := List.mem_of_getElem? (i := 15) rfl
theorem zw_X12_init_233 : Cond.fieldLink RX12 44 "ShortEnoughModel" "in" "I" ∈ wsX12_init := List.mem_of_getElem? (i := 16) rfl
theorem zw_X12_init_234 : Cond.fieldLink RX12 47 "ShortEnoughModel" "formats" "[I" ∈ wsX12_init := List.mem_of_getElem? (i := 17) rfl
theorem zw_X12_init_235 : Cond.fieldLink RX12 50 "ShortEnoughModel" "formatName" "[I" ∈ wsX12_init := List.mem_of_getElem? (i := 18) rfl
theorem zw_X12_init_236 : Cond.fieldLink RX12 53 "ShortEnoughModel" "step" "[I" ∈ wsX12_init := List.mem_of_getElem? (i := 19) rfl
theorem zw_X12_init_237 : Cond.fieldLink RX12 56 "ShortEnoughModel" "most" "[I" ∈ wsX12_init := List.mem_of_getElem? (i := 20) rfl
theorem zw_X12_init_238 : Cond.fieldLink RX12 59 "ShortEnoughModel" "formatCost" "[I" ∈ wsX12_init := List.mem_of_getElem? (i := 21) rfl
theorem zw_X12_init_239 : Cond.fieldLink RX12 62 "ShortEnoughModel" "numbers" "[I" ∈ wsX12_init := List.mem_of_getElem? (i := 22) rfl
theorem zw_X12_init_240 : Cond.fieldLink RX12 65 "ShortEnoughModel" "numberName" "[I" ∈ wsX12_init := List.mem_of_getElem? (i := 23) rfl
theorem zw_X12_init_241 : Cond.fieldLink RX12 68 "ShortEnoughModel" "op" "[I" ∈ wsX12_init := List.mem_of_getElem? (i := 24) rfl
theorem zw_X12_init_242 : Cond.fieldLink RX12 71 "ShortEnoughModel" "first" "[I" ∈ wsX12_init := List.mem_of_getElem? (i := 25) rfl
theorem zw_X12_init_243 : Cond.fieldLink RX12 74 "ShortEnoughModel" "second" "[I" ∈ wsX12_init := List.mem_of_getElem? (i := 26) rfl
theorem zw_X12_init_244 : Cond.arrayClass .long ∈ wsX12_init := List.mem_of_getElem? (i := 27) rfl
theorem zw_X12_init_245 : Cond.fieldLink RX12 77 "ShortEnoughModel" "firstV" "[J" ∈ wsX12_init := List.mem_of_getElem? (i := 28) rfl
theorem zw_X12_init_246 : Cond.fieldLink RX12 81 "ShortEnoughModel" "secondV" "[J" ∈ wsX12_init := List.mem_of_getElem? (i := 29) rfl
theorem zw_X12_init_247 : Cond.fieldLink RX12 84 "ShortEnoughModel" "castCost" "[I" ∈ wsX12_init := List.mem_of_getElem? (i := 30) rfl
theorem zw_X12_init_248 : Cond.fieldLink RX12 87 "ShortEnoughModel" "fixedAs" "[I" ∈ wsX12_init := List.mem_of_getElem? (i := 31) rfl
theorem zw_X12_init_249 : Cond.fieldLink RX12 90 "ShortEnoughModel" "within" "[I" ∈ wsX12_init := List.mem_of_getElem? (i := 32) rfl
theorem zw_X12_init_250 : Cond.fieldLink RX12 93 "ShortEnoughModel" "groupOf" "[I" ∈ wsX12_init := List.mem_of_getElem? (i := 33) rfl
theorem zw_X12_init_251 : Cond.fieldLink RX12 96 "ShortEnoughModel" "whatV" "J" ∈ wsX12_init := List.mem_of_getElem? (i := 34) rfl
theorem zw_X12_init_252 : Cond.fieldLink RX12 100 "ShortEnoughModel" "free" "[I" ∈ wsX12_init := List.mem_of_getElem? (i := 35) rfl
theorem zw_X12_init_253 : Cond.fieldLink RX12 103 "ShortEnoughModel" "freeMany" "I" ∈ wsX12_init := List.mem_of_getElem? (i := 36) rfl
theorem zw_X12_init_254 : Cond.fieldLink RX12 106 "ShortEnoughModel" "least" "[J" ∈ wsX12_init := List.mem_of_getElem? (i := 37) rfl
theorem zw_X12_init_255 : Cond.fieldLink RX12 109 "ShortEnoughModel" "greatest" "[J" ∈ wsX12_init := List.mem_of_getElem? (i := 38) rfl
theorem zw_X12_init_256 : Cond.fieldLink RX12 112 "ShortEnoughModel" "wideNumber" "I" ∈ wsX12_init := List.mem_of_getElem? (i := 39) rfl
theorem zw_X12_init_257 : Cond.fieldLink RX12 115 "ShortEnoughModel" "wideBy" "J" ∈ wsX12_init := List.mem_of_getElem? (i := 40) rfl
theorem zw_X12_init_258 : Cond.arrayClass .boolean ∈ wsX12_init := List.mem_of_getElem? (i := 41) rfl
theorem zw_X12_init_259 : Cond.fieldLink RX12 118 "ShortEnoughModel" "isGreat" "[Z" ∈ wsX12_init := List.mem_of_getElem? (i := 42) rfl
theorem zw_X12_init_260 : Cond.fieldLink RX12 122 "ShortEnoughModel" "deep" "[I" ∈ wsX12_init := List.mem_of_getElem? (i := 43) rfl
theorem zw_X12_init_261 : Cond.fieldLink RX12 125 "ShortEnoughModel" "hand" "[I" ∈ wsX12_init := List.mem_of_getElem? (i := 44) rfl
theorem zw_X12_init_262 : Cond.fieldLink RX12 128 "ShortEnoughModel" "hasHand" "Z" ∈ wsX12_init := List.mem_of_getElem? (i := 45) rfl
theorem zw_X12_init_263 : Cond.fieldLink RX12 132 "ShortEnoughModel" "tried" "[I" ∈ wsX12_init := List.mem_of_getElem? (i := 46) rfl
theorem zw_X12_init_264 : Cond.fieldLink RX12 135 "ShortEnoughModel" "error" "[J" ∈ wsX12_init := List.mem_of_getElem? (i := 47) rfl
theorem zw_X12_init_265 : Cond.fieldLink RX12 138 "ShortEnoughModel" "failsAt" "I" ∈ wsX12_init := List.mem_of_getElem? (i := 48) rfl
theorem zw_X12_init_266 : Cond.fieldLink RX12 141 "ShortEnoughModel" "failsWhy" "I" ∈ wsX12_init := List.mem_of_getElem? (i := 49) rfl
theorem zw_X12_init_267 : Cond.fieldLink RX12 144 "ShortEnoughModel" "soFar" "[I" ∈ wsX12_init := List.mem_of_getElem? (i := 50) rfl
theorem zw_X12_init_268 : Cond.fieldLink RX12 147 "ShortEnoughModel" "soFarCost" "I" ∈ wsX12_init := List.mem_of_getElem? (i := 51) rfl
theorem zw_X12_init_269 : Cond.fieldLink RX12 150 "ShortEnoughModel" "tries" "I" ∈ wsX12_init := List.mem_of_getElem? (i := 52) rfl
theorem zw_X12_init_270 : Cond.fieldLink RX12 153 "ShortEnoughModel" "hasChanged" "[Z" ∈ wsX12_init := List.mem_of_getElem? (i := 53) rfl
theorem zw_X12_init_271 : Cond.fieldLink RX12 156 "ShortEnoughModel" "row" "[I" ∈ wsX12_init := List.mem_of_getElem? (i := 54) rfl
theorem zw_X12_init_272 : Cond.fieldLink RX12 159 "ShortEnoughModel" "partFrom" "[I" ∈ wsX12_init := List.mem_of_getElem? (i := 55) rfl
theorem zw_X12_init_273 : Cond.fieldLink RX12 162 "ShortEnoughModel" "partMany" "[I" ∈ wsX12_init := List.mem_of_getElem? (i := 56) rfl
theorem zw_X12_init_274 : Cond.fieldLink RX12 165 "ShortEnoughModel" "singlePass" "I" ∈ wsX12_init := List.mem_of_getElem? (i := 57) rfl
theorem zw_X12_init_275 : Cond.fieldLink RX12 168 "ShortEnoughModel" "singleLess" "I" ∈ wsX12_init := List.mem_of_getElem? (i := 58) rfl
theorem zw_X12_init_276 : Cond.fieldLink RX12 171 "ShortEnoughModel" "singleGroup" "I" ∈ wsX12_init := List.mem_of_getElem? (i := 59) rfl
theorem zw_X12_init_277 : Cond.fieldLink RX12 174 "ShortEnoughModel" "singleFormat" "I" ∈ wsX12_init := List.mem_of_getElem? (i := 60) rfl
theorem zw_X12_init_278 : Cond.fieldLink RX12 177 "ShortEnoughModel" "frontCost" "[I" ∈ wsX12_init := List.mem_of_getElem? (i := 61) (by decide +kernel)
theorem zw_X12_init_279 : Cond.fieldLink RX12 180 "ShortEnoughModel" "frontError" "[J" ∈ wsX12_init := List.mem_of_getElem? (i := 62) (by decide +kernel)
theorem zw_X12_init_280 : Cond.fieldLink RX12 183 "ShortEnoughModel" "frontMany" "[I" ∈ wsX12_init := List.mem_of_getElem? (i := 63) (by decide +kernel)
theorem zw_X12_init_281 : Cond.fieldLink RX12 186 "ShortEnoughModel" "fronts" "I" ∈ wsX12_init := List.mem_of_getElem? (i := 64) (by decide +kernel)
theorem zw_X12_init_282 : Cond.fieldLink RX12 189 "ShortEnoughModel" "brokenAt" "I" ∈ wsX12_init := List.mem_of_getElem? (i := 65) (by decide +kernel)
theorem zw_X12_init_283 : Cond.fieldLink RX12 192 "ShortEnoughModel" "brokenWhy" "I" ∈ wsX12_init := List.mem_of_getElem? (i := 66) (by decide +kernel)
theorem zw_X12_init_284 : Cond.fieldLink RX12 195 "ShortEnoughModel" "saysFormat" "[I" ∈ wsX12_init := List.mem_of_getElem? (i := 67) (by decide +kernel)
theorem zw_X12_init_285 : Cond.fieldLink RX12 198 "ShortEnoughModel" "saysLeast" "[J" ∈ wsX12_init := List.mem_of_getElem? (i := 68) (by decide +kernel)
theorem zw_X12_init_286 : Cond.fieldLink RX12 201 "ShortEnoughModel" "saysGreatest" "[J" ∈ wsX12_init := List.mem_of_getElem? (i := 69) (by decide +kernel)
theorem zw_X12_init_287 : Cond.fieldLink RX12 204 "ShortEnoughModel" "saysError" "[J" ∈ wsX12_init := List.mem_of_getElem? (i := 70) (by decide +kernel)
theorem zw_X12_init_288 : Cond.fieldLink RX12 207 "ShortEnoughModel" "seedNow" "I" ∈ wsX12_init := List.mem_of_getElem? (i := 71) (by decide +kernel)
theorem zw_X12_init_289 : Cond.fieldLink RX12 210 "ShortEnoughModel" "exact" "[J" ∈ wsX12_init := List.mem_of_getElem? (i := 72) (by decide +kernel)
theorem zw_X12_init_290 : Cond.fieldLink RX12 213 "ShortEnoughModel" "keptAs" "[J" ∈ wsX12_init := List.mem_of_getElem? (i := 73) (by decide +kernel)
