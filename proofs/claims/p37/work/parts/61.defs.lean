noncomputable def RL : String := "ShortEnoughLaw"
noncomputable abbrev cL_law : ByteArray := code
noncomputable def wsJ0_coder_7d493 : List Cond := .code yJ0_coder_7d493 cJ0_coder_7d493 1 (some .byte) :: ([.fieldLink RJ0 38 "java/lang/String" "COMPACT_STRINGS" "Z", .fieldLink RJ0 15 "java/lang/String" "coder" "B"])
noncomputable def wsJ0_isLatin1_aae02 : List Cond := .code yJ0_isLatin1_aae02 cJ0_isLatin1_aae02 1 (some .boolean) :: ([.fieldLink RJ0 38 "java/lang/String" "COMPACT_STRINGS" "Z", .fieldLink RJ0 15 "java/lang/String" "coder" "B"])
noncomputable def wsJ3_checkIndex_8e157 : List Cond := .code yJ3_checkIndex_8e157 cJ3_checkIndex_8e157 3 (some .int) :: ([])
noncomputable def wsJ0_checkIndex_df160 : List Cond := .code yJ0_checkIndex_df160 cJ0_checkIndex_df160 2 none :: ([.fieldLink RJ0 1053 "jdk/internal/util/Preconditions" "SIOOBE_FORMATTER" "Ljava/util/function/BiFunction;", .methodLink RJ0 1059 yJ3_checkIndex_8e157, .static yJ3_checkIndex_8e157, .initialized RJ3, .code yJ3_checkIndex_8e157 cJ3_checkIndex_8e157 3 (some .int)])
noncomputable def wsJ1_charAt_3b067 : List Cond := .code yJ1_charAt_3b067 cJ1_charAt_3b067 2 (some .char) :: ([.methodLink RJ1 9 yJ0_checkIndex_df160, .static yJ0_checkIndex_df160, .initialized RJ0, .code yJ0_checkIndex_df160 cJ0_checkIndex_df160 2 none, .fieldLink RJ0 1053 "jdk/internal/util/Preconditions" "SIOOBE_FORMATTER" "Ljava/util/function/BiFunction;", .methodLink RJ0 1059 yJ3_checkIndex_8e157, .static yJ3_checkIndex_8e157, .initialized RJ3, .code yJ3_checkIndex_8e157 cJ3_checkIndex_8e157 3 (some .int)])
noncomputable def wsL_law_r1 : List Cond := [Cond.classLink RL 7 RX11, Cond.instantiable RX11 16, Cond.initialized RX11, Cond.classLink RL 10 RX12, Cond.instantiable RX12 67, Cond.initialized RX12, Cond.methodLink RL 9 yX11_init, Cond.instanceMethod yX11_init, Cond.code yX11_init cX11_init 1 none, Cond.methodLink RX11 1 objectInit, Cond.instanceMethod objectInit, Cond.code objectInit ⟨#[0xb1]⟩ 1 none, Cond.arrayClass .byte, Cond.fieldLink RX11 9 "ShortEnough" "tape" "[B", Cond.arrayClass .int, Cond.fieldLink RX11 13 "ShortEnough" "refused" "[I", Cond.classLink RX11 17 RX5, Cond.instantiable RX5 4, Cond.initialized RX5, Cond.fieldLink RX11 20 "ShortEnough" "parser" "LShortEnough$Parser;", Cond.classLink RX11 24 RX9, Cond.instantiable RX9 9, Cond.initialized RX9, Cond.fieldLink RX11 27 "ShortEnough" "current" "LShortEnough$Task;"]
noncomputable def wsL_law_r2 : List Cond := [Cond.fieldLink RX11 31 "ShortEnough" "spare" "LShortEnough$Task;", Cond.fieldLink RX11 34 "ShortEnough" "hand" "[I", Cond.fieldLink RX11 37 "ShortEnough" "other" "[I", Cond.classLink RX11 40 RX7, Cond.instantiable RX7 3, Cond.initialized RX7, Cond.fieldLink RX11 43 "ShortEnough" "reckoning" "LShortEnough$Reckoning;", Cond.fieldLink RX11 47 "ShortEnough" "otherReckoning" "LShortEnough$Reckoning;", Cond.classLink RX11 50 RX6, Cond.instantiable RX6 3, Cond.initialized RX6, Cond.fieldLink RX11 53 "ShortEnough" "longerRanges" "LShortEnough$Ranges;", Cond.classLink RX11 57 RX1, Cond.instantiable RX1 14, Cond.initialized RX1, Cond.fieldLink RX11 60 "ShortEnough" "full" "LShortEnough$FullSearch;", Cond.classLink RX11 64 RX3, Cond.instantiable RX3 16, Cond.initialized RX3, Cond.fieldLink RX11 67 "ShortEnough" "local" "LShortEnough$LocalSearch;", Cond.classLink RX11 71 RX0, Cond.instantiable RX0 5, Cond.initialized RX0, Cond.fieldLink RX11 74 "ShortEnough" "reader" "LShortEnough$CertificateReader;"]
noncomputable def wsL_law_r3 : List Cond := [Cond.classLink RX11 78 RX8, Cond.instantiable RX8 2, Cond.initialized RX8, Cond.fieldLink RX11 81 "ShortEnough" "sampler" "LShortEnough$Sampler;", Cond.fieldLink RX11 85 "ShortEnough" "seedNow" "I", Cond.instanceMethod yX5_init, Cond.code yX5_init cX5_init 1 none, Cond.methodLink RX5 3 objectInit, Cond.classLink RX5 9 RX10, Cond.instantiable RX10 8, Cond.initialized RX10, Cond.fieldLink RX5 12 "ShortEnough$Parser" "words" "LShortEnough$Words;", Cond.fieldLink RX5 18 "ShortEnough$Parser" "faultPlace" "I", Cond.methodLink RX5 11 yX10_init, Cond.instanceMethod yX10_init, Cond.code yX10_init cX10_init 5 none, Cond.methodLink RX10 3 objectInit, Cond.fieldLink RX10 11 "ShortEnough$Words" "ownNames" "[I", Cond.fieldLink RX10 15 "ShortEnough$Words" "text" "[B", Cond.methodLink RX10 21 yJ0_length_8abf5, Cond.instanceMethod yJ0_length_8abf5, Cond.selects RJ0 yJ0_length_8abf5 yJ0_length_8abf5, Cond.initialized RJ0, Cond.code yJ0_length_8abf5 cJ0_length_8abf5 1 (some .int)]
noncomputable def wsL_law_r4 : List Cond := [Cond.fieldLink RJ0 9 "java/lang/String" "value" "[B", Cond.methodLink RJ0 335 yJ0_coder_7d493, Cond.instanceMethod yJ0_coder_7d493, Cond.selects RJ0 yJ0_coder_7d493 yJ0_coder_7d493, Cond.code yJ0_coder_7d493 cJ0_coder_7d493 1 (some .byte), Cond.fieldLink RJ0 38 "java/lang/String" "COMPACT_STRINGS" "Z", Cond.fieldLink RJ0 15 "java/lang/String" "coder" "B", Cond.methodLink RX10 27 yJ0_charAt_5068e, Cond.instanceMethod yJ0_charAt_5068e, Cond.selects RJ0 yJ0_charAt_5068e yJ0_charAt_5068e, Cond.code yJ0_charAt_5068e cJ0_charAt_5068e 2 (some .char), Cond.methodLink RJ0 492 yJ0_isLatin1_aae02, Cond.instanceMethod yJ0_isLatin1_aae02, Cond.selects RJ0 yJ0_isLatin1_aae02 yJ0_isLatin1_aae02, Cond.code yJ0_isLatin1_aae02 cJ0_isLatin1_aae02 1 (some .boolean), Cond.methodLink RJ0 495 yJ1_charAt_3b067, Cond.static yJ1_charAt_3b067, Cond.initialized RJ1, Cond.code yJ1_charAt_3b067 cJ1_charAt_3b067 2 (some .char), Cond.methodLink RJ1 9 yJ0_checkIndex_df160, Cond.static yJ0_checkIndex_df160, Cond.code yJ0_checkIndex_df160 cJ0_checkIndex_df160 2 none, Cond.fieldLink RJ0 1053 "jdk/internal/util/Preconditions" "SIOOBE_FORMATTER" "Ljava/util/function/BiFunction;", Cond.methodLink RJ0 1059 yJ3_checkIndex_8e157]
noncomputable def wsL_law_r5 : List Cond := [Cond.static yJ3_checkIndex_8e157, Cond.initialized RJ3, Cond.code yJ3_checkIndex_8e157 cJ3_checkIndex_8e157 3 (some .int), Cond.methodLink RJ0 498 yJ2_charAt_3b067, Cond.static yJ2_charAt_3b067, Cond.initialized RJ2, Cond.code yJ2_charAt_3b067 cJ2_charAt_3b067 2 (some .char), Cond.methodLink RJ2 67 yJ2_checkIndex_2214a, Cond.static yJ2_checkIndex_2214a, Cond.code yJ2_checkIndex_2214a cJ2_checkIndex_2214a 2 none, Cond.methodLink RJ2 48 yJ2_length_9d52b, Cond.static yJ2_length_9d52b, Cond.code yJ2_length_9d52b cJ2_length_9d52b 1 (some .int), Cond.methodLink RJ2 414 yJ0_checkIndex_df160, Cond.methodLink RJ2 71 yJ2_getChar_3b067, Cond.static yJ2_getChar_3b067, Cond.code yJ2_getChar_3b067 cJ2_getChar_3b067 2 (some .char), Cond.fieldLink RJ2 44 "java/lang/StringUTF16" "$assertionsDisabled" "Z", Cond.fieldLink RJ2 59 "java/lang/StringUTF16" "HI_BYTE_SHIFT" "I", Cond.fieldLink RJ2 63 "java/lang/StringUTF16" "LO_BYTE_SHIFT" "I", Cond.instanceMethod yX9_init, Cond.code yX9_init cX9_init 1 none, Cond.methodLink RX9 3 objectInit, Cond.fieldLink RX9 9 "ShortEnough$Task" "formatName" "[I"]
noncomputable def wsL_law_r6 : List Cond := [Cond.fieldLink RX9 15 "ShortEnough$Task" "step" "[I", Cond.fieldLink RX9 18 "ShortEnough$Task" "most" "[I", Cond.fieldLink RX9 21 "ShortEnough$Task" "price" "[I", Cond.classLink RX9 24 RX4, Cond.instantiable RX4 10, Cond.initialized RX4, Cond.fieldLink RX9 27 "ShortEnough$Task" "numbers" "LShortEnough$Numbers;", Cond.classLink RX9 31 RX2, Cond.instantiable RX2 6, Cond.initialized RX2, Cond.fieldLink RX9 34 "ShortEnough$Task" "groups" "LShortEnough$Groups;", Cond.classLink RX9 38 RX6, Cond.fieldLink RX9 41 "ShortEnough$Task" "ranges" "LShortEnough$Ranges;", Cond.instanceMethod yX4_init, Cond.code yX4_init cX4_init 1 none, Cond.methodLink RX4 3 objectInit, Cond.fieldLink RX4 9 "ShortEnough$Numbers" "name" "[I", Cond.fieldLink RX4 15 "ShortEnough$Numbers" "op" "[I", Cond.fieldLink RX4 18 "ShortEnough$Numbers" "fixedAs" "[I", Cond.fieldLink RX4 21 "ShortEnough$Numbers" "allowed" "[I", Cond.fieldLink RX4 24 "ShortEnough$Numbers" "lets" "[I", Cond.fieldLink RX4 27 "ShortEnough$Numbers" "joined" "[I", Cond.fieldLink RX4 30 "ShortEnough$Numbers" "made" "[I", Cond.fieldLink RX4 33 "ShortEnough$Numbers" "amount" "[I"]
noncomputable def wsL_law_r7 : List Cond := [Cond.instanceMethod yX2_init, Cond.code yX2_init cX2_init 1 none, Cond.methodLink RX2 3 objectInit, Cond.fieldLink RX2 9 "ShortEnough$Groups" "of" "[I", Cond.fieldLink RX2 15 "ShortEnough$Groups" "fixedAs" "[I", Cond.fieldLink RX2 18 "ShortEnough$Groups" "leader" "[I", Cond.instanceMethod yX6_init, Cond.code yX6_init cX6_init 1 none, Cond.methodLink RX6 3 objectInit, Cond.arrayClass .long, Cond.fieldLink RX6 9 "ShortEnough$Ranges" "low" "[J", Cond.fieldLink RX6 15 "ShortEnough$Ranges" "high" "[J", Cond.arrayClass .boolean, Cond.fieldLink RX6 18 "ShortEnough$Ranges" "wide" "[Z", Cond.instanceMethod yX7_init, Cond.code yX7_init cX7_init 1 none, Cond.methodLink RX7 3 objectInit, Cond.fieldLink RX7 9 "ShortEnough$Reckoning" "errors" "[J", Cond.instanceMethod yX1_init, Cond.code yX1_init cX1_init 1 none, Cond.methodLink RX1 3 objectInit, Cond.classLink RX1 9 RX7, Cond.fieldLink RX1 12 "ShortEnough$FullSearch" "reckoning" "LShortEnough$Reckoning;", Cond.fieldLink RX1 18 "ShortEnough$FullSearch" "choice" "[I"]
noncomputable def wsL_law_r8 : List Cond := [Cond.fieldLink RX1 22 "ShortEnough$FullSearch" "prices" "[I", Cond.fieldLink RX1 25 "ShortEnough$FullSearch" "errors" "[I", Cond.fieldLink RX1 28 "ShortEnough$FullSearch" "best" "I", Cond.fieldLink RX1 32 "ShortEnough$FullSearch" "frontOf" "I", Cond.fieldLink RX1 35 "ShortEnough$FullSearch" "frontPrice" "[I", Cond.fieldLink RX1 38 "ShortEnough$FullSearch" "frontError" "[I", Cond.fieldLink RX1 41 "ShortEnough$FullSearch" "frontMany" "[I", Cond.instanceMethod yX3_init, Cond.code yX3_init cX3_init 1 none, Cond.methodLink RX3 3 objectInit, Cond.classLink RX3 9 RX7, Cond.fieldLink RX3 12 "ShortEnough$LocalSearch" "reckoning" "LShortEnough$Reckoning;", Cond.fieldLink RX3 18 "ShortEnough$LocalSearch" "near" "[I", Cond.fieldLink RX3 22 "ShortEnough$LocalSearch" "changed" "[Z", Cond.fieldLink RX3 26 "ShortEnough$LocalSearch" "unchanged" "[I", Cond.fieldLink RX3 29 "ShortEnough$LocalSearch" "partFrom" "[I", Cond.fieldLink RX3 32 "ShortEnough$LocalSearch" "partTo" "[I", Cond.fieldLink RX3 35 "ShortEnough$LocalSearch" "row" "[I", Cond.fieldLink RX3 38 "ShortEnough$LocalSearch" "bestGroup" "I", Cond.fieldLink RX3 42 "ShortEnough$LocalSearch" "bestFormat" "I", Cond.instanceMethod yX0_init, Cond.code yX0_init cX0_init 1 none, Cond.methodLink RX0 3 objectInit, Cond.classLink RX0 9 RX6]
noncomputable def wsL_law_r9 : List Cond := [Cond.fieldLink RX0 12 "ShortEnough$CertificateReader" "said" "LShortEnough$Ranges;", Cond.classLink RX0 18 RX7, Cond.fieldLink RX0 21 "ShortEnough$CertificateReader" "saidErrors" "LShortEnough$Reckoning;", Cond.fieldLink RX0 25 "ShortEnough$CertificateReader" "choice" "[I", Cond.fieldLink RX0 29 "ShortEnough$CertificateReader" "breaksAt" "I", Cond.fieldLink RX0 33 "ShortEnough$CertificateReader" "reason" "I", Cond.instanceMethod yX8_init, Cond.code yX8_init cX8_init 1 none, Cond.methodLink RX8 3 objectInit, Cond.fieldLink RX8 9 "ShortEnough$Sampler" "exact" "[J", Cond.fieldLink RX8 15 "ShortEnough$Sampler" "kept" "[J", Cond.methodLink RL 12 yX12_init, Cond.instanceMethod yX12_init, Cond.code yX12_init cX12_init 1 none, Cond.methodLink RX12 1 objectInit, Cond.fieldLink RX12 7 "ShortEnoughModel" "tape" "[I", Cond.fieldLink RX12 13 "ShortEnoughModel" "taped" "I", Cond.fieldLink RX12 17 "ShortEnoughModel" "refused" "[I", Cond.fieldLink RX12 20 "ShortEnoughModel" "faultKind" "I", Cond.fieldLink RX12 23 "ShortEnoughModel" "faultPlace" "I", Cond.fieldLink RX12 26 "ShortEnoughModel" "size" "I", Cond.fieldLink RX12 29 "ShortEnoughModel" "at" "I", Cond.fieldLink RX12 32 "ShortEnoughModel" "begun" "I", Cond.fieldLink RX12 35 "ShortEnoughModel" "wrong" "I"]
noncomputable def wsL_law_r10 : List Cond := [Cond.fieldLink RX12 38 "ShortEnoughModel" "wrongAt" "I", Cond.fieldLink RX12 41 "ShortEnoughModel" "ownLetters" "[I", Cond.fieldLink RX12 44 "ShortEnoughModel" "in" "I", Cond.fieldLink RX12 47 "ShortEnoughModel" "formats" "[I", Cond.fieldLink RX12 50 "ShortEnoughModel" "formatName" "[I", Cond.fieldLink RX12 53 "ShortEnoughModel" "step" "[I", Cond.fieldLink RX12 56 "ShortEnoughModel" "most" "[I", Cond.fieldLink RX12 59 "ShortEnoughModel" "formatCost" "[I", Cond.fieldLink RX12 62 "ShortEnoughModel" "numbers" "[I", Cond.fieldLink RX12 65 "ShortEnoughModel" "numberName" "[I", Cond.fieldLink RX12 68 "ShortEnoughModel" "op" "[I", Cond.fieldLink RX12 71 "ShortEnoughModel" "first" "[I", Cond.fieldLink RX12 74 "ShortEnoughModel" "second" "[I", Cond.fieldLink RX12 77 "ShortEnoughModel" "firstV" "[J", Cond.fieldLink RX12 81 "ShortEnoughModel" "secondV" "[J", Cond.fieldLink RX12 84 "ShortEnoughModel" "castCost" "[I", Cond.fieldLink RX12 87 "ShortEnoughModel" "fixedAs" "[I", Cond.fieldLink RX12 90 "ShortEnoughModel" "within" "[I", Cond.fieldLink RX12 93 "ShortEnoughModel" "groupOf" "[I", Cond.fieldLink RX12 96 "ShortEnoughModel" "whatV" "J", Cond.fieldLink RX12 100 "ShortEnoughModel" "free" "[I", Cond.fieldLink RX12 103 "ShortEnoughModel" "freeMany" "I", Cond.fieldLink RX12 106 "ShortEnoughModel" "least" "[J", Cond.fieldLink RX12 109 "ShortEnoughModel" "greatest" "[J"]
noncomputable def wsL_law_r11 : List Cond := [Cond.fieldLink RX12 112 "ShortEnoughModel" "wideNumber" "I", Cond.fieldLink RX12 115 "ShortEnoughModel" "wideBy" "J", Cond.fieldLink RX12 118 "ShortEnoughModel" "isGreat" "[Z", Cond.fieldLink RX12 122 "ShortEnoughModel" "deep" "[I", Cond.fieldLink RX12 125 "ShortEnoughModel" "hand" "[I", Cond.fieldLink RX12 128 "ShortEnoughModel" "hasHand" "Z", Cond.fieldLink RX12 132 "ShortEnoughModel" "tried" "[I", Cond.fieldLink RX12 135 "ShortEnoughModel" "error" "[J", Cond.fieldLink RX12 138 "ShortEnoughModel" "failsAt" "I", Cond.fieldLink RX12 141 "ShortEnoughModel" "failsWhy" "I", Cond.fieldLink RX12 144 "ShortEnoughModel" "soFar" "[I", Cond.fieldLink RX12 147 "ShortEnoughModel" "soFarCost" "I", Cond.fieldLink RX12 150 "ShortEnoughModel" "tries" "I", Cond.fieldLink RX12 153 "ShortEnoughModel" "hasChanged" "[Z", Cond.fieldLink RX12 156 "ShortEnoughModel" "row" "[I", Cond.fieldLink RX12 159 "ShortEnoughModel" "partFrom" "[I", Cond.fieldLink RX12 162 "ShortEnoughModel" "partMany" "[I", Cond.fieldLink RX12 165 "ShortEnoughModel" "singlePass" "I", Cond.fieldLink RX12 168 "ShortEnoughModel" "singleLess" "I", Cond.fieldLink RX12 171 "ShortEnoughModel" "singleGroup" "I", Cond.fieldLink RX12 174 "ShortEnoughModel" "singleFormat" "I", Cond.fieldLink RX12 177 "ShortEnoughModel" "frontCost" "[I", Cond.fieldLink RX12 180 "ShortEnoughModel" "frontError" "[J", Cond.fieldLink RX12 183 "ShortEnoughModel" "frontMany" "[I"]
noncomputable def wsL_law_r12 : List Cond := [Cond.fieldLink RX12 186 "ShortEnoughModel" "fronts" "I", Cond.fieldLink RX12 189 "ShortEnoughModel" "brokenAt" "I", Cond.fieldLink RX12 192 "ShortEnoughModel" "brokenWhy" "I", Cond.fieldLink RX12 195 "ShortEnoughModel" "saysFormat" "[I", Cond.fieldLink RX12 198 "ShortEnoughModel" "saysLeast" "[J", Cond.fieldLink RX12 201 "ShortEnoughModel" "saysGreatest" "[J", Cond.fieldLink RX12 204 "ShortEnoughModel" "saysError" "[J", Cond.fieldLink RX12 207 "ShortEnoughModel" "seedNow" "I", Cond.fieldLink RX12 210 "ShortEnoughModel" "exact" "[J", Cond.fieldLink RX12 213 "ShortEnoughModel" "keptAs" "[J", Cond.methodLink RL 13 yX11_feed, Cond.instanceMethod yX11_feed, Cond.selects RX11 yX11_feed yX11_feed, Cond.code yX11_feed cX11_feed 6 (some .int), Cond.fieldLink RX11 89 "ShortEnough" "tapeLength" "I", Cond.methodLink RX11 92 yX11_refuse, Cond.instanceMethod yX11_refuse, Cond.selects RX11 yX11_refuse yX11_refuse, Cond.code yX11_refuse cX11_refuse 2 (some .int), Cond.methodLink RX11 96 yX11_putBytes, Cond.instanceMethod yX11_putBytes, Cond.selects RX11 yX11_putBytes yX11_putBytes, Cond.code yX11_putBytes cX11_putBytes 3 none, Cond.methodLink RL 17 yX12_feed]
noncomputable def wsL_law_r13 : List Cond := [Cond.instanceMethod yX12_feed, Cond.selects RX12 yX12_feed yX12_feed, Cond.code yX12_feed cX12_feed 6 (some .int), Cond.methodLink RX12 216 yX12_refuses, Cond.instanceMethod yX12_refuses, Cond.selects RX12 yX12_refuses yX12_refuses, Cond.code yX12_refuses cX12_refuses 2 (some .int), Cond.methodLink RX12 220 yX12_lays, Cond.instanceMethod yX12_lays, Cond.selects RX12 yX12_lays yX12_lays, Cond.code yX12_lays cX12_lays 3 none, Cond.methodLink RL 18 yX11_end, Cond.instanceMethod yX11_end, Cond.selects RX11 yX11_end yX11_end, Cond.code yX11_end cX11_end 2 (some .boolean), Cond.methodLink RL 22 yX12_end, Cond.instanceMethod yX12_end, Cond.selects RX12 yX12_end yX12_end, Cond.code yX12_end cX12_end 2 (some .boolean), Cond.methodLink RX12 224 yX12_isRefused, Cond.instanceMethod yX12_isRefused, Cond.selects RX12 yX12_isRefused yX12_isRefused, Cond.code yX12_isRefused cX12_isRefused 2 (some .boolean), Cond.methodLink RL 23 yX11_task]
noncomputable def wsL_law_r14 : List Cond := [Cond.instanceMethod yX11_task, Cond.selects RX11 yX11_task yX11_task, Cond.code yX11_task cX11_task 3 (some .int), Cond.fieldLink RX11 107 "ShortEnough$Task" "groups" "LShortEnough$Groups;", Cond.fieldLink RX11 122 "ShortEnough$Task" "numbers" "LShortEnough$Numbers;", Cond.fieldLink RX11 126 "ShortEnough$Numbers" "count" "I", Cond.methodLink RX11 100 yX5_read, Cond.instanceMethod yX5_read, Cond.selects RX5 yX5_read yX5_read, Cond.code yX5_read cX5_read 5 (some .boolean), Cond.fieldLink RX5 22 "ShortEnough$Parser" "faultKind" "I", Cond.fieldLink RX5 34 "ShortEnough$Words" "kind" "I", Cond.fieldLink RX5 41 "ShortEnough$Task" "formats" "I", Cond.fieldLink RX5 44 "ShortEnough$Task" "numbers" "LShortEnough$Numbers;", Cond.fieldLink RX5 48 "ShortEnough$Numbers" "count" "I", Cond.methodLink RX5 25 yX9_clear, Cond.instanceMethod yX9_clear, Cond.selects RX9 yX9_clear yX9_clear, Cond.code yX9_clear cX9_clear 1 none, Cond.fieldLink RX9 45 "ShortEnough$Task" "formats" "I", Cond.fieldLink RX9 49 "ShortEnough$Task" "castPrice" "I", Cond.fieldLink RX9 52 "ShortEnough$Numbers" "count" "I", Cond.fieldLink RX9 55 "ShortEnough$Numbers" "inputs" "I", Cond.methodLink RX5 30 yX10_open]
noncomputable def wsL_law_r15 : List Cond := [Cond.instanceMethod yX10_open, Cond.selects RX10 yX10_open yX10_open, Cond.code yX10_open cX10_open 3 none, Cond.methodLink RX10 31 Lib.Math.min.name, Cond.static Lib.Math.min.name, Cond.initialized "java/lang/Math", Cond.code Lib.Math.min.name Lib.Math.min.code 2 (some .int), Cond.methodLink RX10 37 Lib.Math.max.name, Cond.static Lib.Math.max.name, Cond.code Lib.Math.max.name Lib.Math.max.code 2 (some .int), Cond.fieldLink RX10 40 "ShortEnough$Words" "length" "I", Cond.fieldLink RX10 43 "ShortEnough$Words" "place" "I", Cond.fieldLink RX10 46 "ShortEnough$Words" "kind" "I", Cond.methodLink RX10 49 yX10_advance, Cond.instanceMethod yX10_advance, Cond.selects RX10 yX10_advance yX10_advance, Cond.code yX10_advance cX10_advance 5 none, Cond.fieldLink RX10 56 "ShortEnough$Words" "start" "I", Cond.fieldLink RX10 59 "ShortEnough$Words" "value" "I", Cond.fieldLink RX10 70 "ShortEnough$Words" "own" "I", Cond.methodLink RX10 52 yX10_kindOf, Cond.static yX10_kindOf, Cond.code yX10_kindOf cX10_kindOf 1 (some .int), Cond.methodLink RX10 62 yX10_addByte]
noncomputable def wsL_law_r16 : List Cond := [Cond.instanceMethod yX10_addByte, Cond.selects RX10 yX10_addByte yX10_addByte, Cond.code yX10_addByte cX10_addByte 3 none, Cond.methodLink RX10 66 yX10_findOwn, Cond.instanceMethod yX10_findOwn, Cond.selects RX10 yX10_findOwn yX10_findOwn, Cond.code yX10_findOwn cX10_findOwn 3 (some .int), Cond.methodLink RX5 37 yX5_readStatement, Cond.instanceMethod yX5_readStatement, Cond.selects RX5 yX5_readStatement yX5_readStatement, Cond.code yX5_readStatement cX5_readStatement 5 (some .boolean), Cond.fieldLink RX5 57 "ShortEnough$Words" "own" "I", Cond.fieldLink RX5 64 "ShortEnough$Words" "start" "I", Cond.methodLink RX5 60 yX5_startsStatement, Cond.static yX5_startsStatement, Cond.code yX5_startsStatement cX5_startsStatement 1 (some .boolean), Cond.methodLink RX5 53 yX5_stopAt, Cond.instanceMethod yX5_stopAt, Cond.selects RX5 yX5_stopAt yX5_stopAt, Cond.code yX5_stopAt cX5_stopAt 3 (some .boolean), Cond.methodLink RX5 67 yX5_isFull, Cond.static yX5_isFull, Cond.code yX5_isFull cX5_isFull 3 (some .boolean), Cond.methodLink RX5 70 yX10_advance]
noncomputable def wsL_law_r17 : List Cond := [Cond.methodLink RX5 73 yX5_readFormat, Cond.instanceMethod yX5_readFormat, Cond.selects RX5 yX5_readFormat yX5_readFormat, Cond.code yX5_readFormat cX5_readFormat 5 (some .boolean), Cond.fieldLink RX5 102 "ShortEnough$Parser" "got" "I", Cond.constant RX5 108 (1000000), Cond.constant RX5 113 (1000000000), Cond.methodLink RX5 99 yX5_readNewName, Cond.instanceMethod yX5_readNewName, Cond.selects RX5 yX5_readNewName yX5_readNewName, Cond.code yX5_readNewName cX5_readNewName 3 (some .boolean), Cond.fieldLink RX5 138 "ShortEnough$Words" "value" "I", Cond.methodLink RX5 167 yX10_isName, Cond.instanceMethod yX10_isName, Cond.selects RX10 yX10_isName yX10_isName, Cond.code yX10_isName cX10_isName 1 (some .boolean), Cond.methodLink RX5 155 yX9_findFormat, Cond.instanceMethod yX9_findFormat, Cond.selects RX9 yX9_findFormat yX9_findFormat, Cond.code yX9_findFormat cX9_findFormat 3 (some .int), Cond.methodLink RX5 141 yX4_find, Cond.instanceMethod yX4_find, Cond.selects RX4 yX4_find yX4_find, Cond.code yX4_find cX4_find 3 (some .int)]
noncomputable def wsL_law_r18 : List Cond := [Cond.fieldLink RX4 36 "ShortEnough$Numbers" "count" "I", Cond.methodLink RX5 105 yX5_readOwn, Cond.instanceMethod yX5_readOwn, Cond.selects RX5 yX5_readOwn yX5_readOwn, Cond.code yX5_readOwn cX5_readOwn 2 (some .boolean), Cond.methodLink RX5 152 yX10_isOwn, Cond.instanceMethod yX10_isOwn, Cond.selects RX10 yX10_isOwn yX10_isOwn, Cond.code yX10_isOwn cX10_isOwn 2 (some .boolean), Cond.methodLink RX5 109 yX5_readValue, Cond.instanceMethod yX5_readValue, Cond.selects RX5 yX5_readValue yX5_readValue, Cond.code yX5_readValue cX5_readValue 7 (some .boolean), Cond.methodLink RX5 149 yX10_isSign, Cond.instanceMethod yX10_isSign, Cond.selects RX10 yX10_isSign yX10_isSign, Cond.code yX10_isSign cX10_isSign 2 (some .boolean), Cond.methodLink RX5 114 yX9_addFormat, Cond.instanceMethod yX9_addFormat, Cond.selects RX9 yX9_addFormat yX9_addFormat, Cond.code yX9_addFormat cX9_addFormat 5 none, Cond.methodLink RX5 77 yX5_readCast, Cond.instanceMethod yX5_readCast, Cond.selects RX5 yX5_readCast yX5_readCast]
noncomputable def wsL_law_r19 : List Cond := [Cond.code yX5_readCast cX5_readCast 2 (some .boolean), Cond.fieldLink RX5 118 "ShortEnough$Task" "castPrice" "I", Cond.methodLink RX5 80 yX5_readBox, Cond.instanceMethod yX5_readBox, Cond.selects RX5 yX5_readBox yX5_readBox, Cond.code yX5_readBox cX5_readBox 4 (some .boolean), Cond.constant RX5 121 (-10000000), Cond.constant RX5 122 (10000000), Cond.methodLink RX5 123 yX4_prepare, Cond.instanceMethod yX4_prepare, Cond.selects RX4 yX4_prepare yX4_prepare, Cond.code yX4_prepare cX4_prepare 4 none, Cond.methodLink RX5 127 yX4_add, Cond.instanceMethod yX4_add, Cond.selects RX4 yX4_add yX4_add, Cond.code yX4_add cX4_add 3 none, Cond.methodLink RX4 44 Lib.Math.max.name, Cond.fieldLink RX4 50 "ShortEnough$Numbers" "inputs" "I", Cond.methodLink RX4 40 yX4_letsOf, Cond.instanceMethod yX4_letsOf, Cond.selects RX4 yX4_letsOf yX4_letsOf, Cond.code yX4_letsOf cX4_letsOf 3 (some .int), Cond.methodLink RX5 83 yX5_readLet, Cond.instanceMethod yX5_readLet]
noncomputable def wsL_law_r20 : List Cond := [Cond.selects RX5 yX5_readLet yX5_readLet, Cond.code yX5_readLet cX5_readLet 4 (some .boolean), Cond.methodLink RX5 95 yX5_readSign, Cond.instanceMethod yX5_readSign, Cond.selects RX5 yX5_readSign yX5_readSign, Cond.code yX5_readSign cX5_readSign 2 (some .boolean), Cond.methodLink RX5 131 yX5_readWhat, Cond.instanceMethod yX5_readWhat, Cond.selects RX5 yX5_readWhat yX5_readWhat, Cond.code yX5_readWhat cX5_readWhat 4 (some .boolean), Cond.constant RX5 148 (-1000000), Cond.methodLink RX5 145 yX5_readKnown, Cond.instanceMethod yX5_readKnown, Cond.selects RX5 yX5_readKnown yX5_readKnown, Cond.code yX5_readKnown cX5_readKnown 2 (some .boolean), Cond.methodLink RX5 134 yX5_readOp, Cond.instanceMethod yX5_readOp, Cond.selects RX5 yX5_readOp yX5_readOp, Cond.code yX5_readOp cX5_readOp 1 (some .boolean), Cond.methodLink RX5 86 yX5_readFixed, Cond.instanceMethod yX5_readFixed, Cond.selects RX5 yX5_readFixed yX5_readFixed, Cond.code yX5_readFixed cX5_readFixed 3 (some .boolean), Cond.methodLink RX5 158 yX4_fix]
noncomputable def wsL_law_r21 : List Cond := [Cond.instanceMethod yX4_fix, Cond.selects RX4 yX4_fix yX4_fix, Cond.code yX4_fix cX4_fix 3 none, Cond.methodLink RX5 89 yX5_readGroup, Cond.instanceMethod yX5_readGroup, Cond.selects RX5 yX5_readGroup yX5_readGroup, Cond.code yX5_readGroup cX5_readGroup 4 (some .boolean), Cond.methodLink RX5 161 yX4_join, Cond.instanceMethod yX4_join, Cond.selects RX4 yX4_join yX4_join, Cond.code yX4_join cX4_join 5 none, Cond.methodLink RX5 92 yX5_readAnswer, Cond.instanceMethod yX5_readAnswer, Cond.selects RX5 yX5_readAnswer yX5_readAnswer, Cond.code yX5_readAnswer cX5_readAnswer 3 (some .boolean), Cond.methodLink RX5 164 yX4_allow, Cond.instanceMethod yX4_allow, Cond.selects RX4 yX4_allow yX4_allow, Cond.code yX4_allow cX4_allow 3 none, Cond.methodLink RX11 104 yX9_settle, Cond.instanceMethod yX9_settle, Cond.selects RX9 yX9_settle yX9_settle, Cond.code yX9_settle cX9_settle 1 none, Cond.methodLink RX9 58 yX2_gather]
noncomputable def wsL_law_r22 : List Cond := [Cond.instanceMethod yX2_gather, Cond.selects RX2 yX2_gather yX2_gather, Cond.code yX2_gather cX2_gather 3 none, Cond.fieldLink RX2 21 "ShortEnough$Groups" "count" "I", Cond.fieldLink RX2 25 "ShortEnough$Groups" "clash" "Z", Cond.fieldLink RX2 29 "ShortEnough$Numbers" "count" "I", Cond.fieldLink RX2 36 "ShortEnough$Numbers" "fixedAs" "[I", Cond.fieldLink RX2 41 "ShortEnough$Groups" "free" "I", Cond.methodLink RX2 32 yX2_earlierGroup, Cond.instanceMethod yX2_earlierGroup, Cond.selects RX2 yX2_earlierGroup yX2_earlierGroup, Cond.code yX2_earlierGroup cX2_earlierGroup 4 (some .int), Cond.fieldLink RX2 44 "ShortEnough$Numbers" "joined" "[I", Cond.methodLink RX2 37 yX2_fix, Cond.instanceMethod yX2_fix, Cond.selects RX2 yX2_fix yX2_fix, Cond.code yX2_fix cX2_fix 3 none, Cond.methodLink RX9 62 yX6_fill, Cond.instanceMethod yX6_fill, Cond.selects RX6 yX6_fill yX6_fill, Cond.code yX6_fill cX6_fill 7 none, Cond.fieldLink RX6 22 "ShortEnough$Numbers" "count" "I", Cond.constantLong RX6 43 (1000000000), Cond.methodLink RX6 28 yX6_lowest]
noncomputable def wsL_law_r23 : List Cond := [Cond.instanceMethod yX6_lowest, Cond.selects RX6 yX6_lowest yX6_lowest, Cond.code yX6_lowest cX6_lowest 8 (some .long), Cond.fieldLink RX6 72 "ShortEnough$Numbers" "op" "[I", Cond.methodLink RX6 57 Lib.MathLoose.min_long.x, Cond.static Lib.MathLoose.min_long.x, Cond.code Lib.MathLoose.min_long.x Lib.MathLoose.min_long.code 4 (some .long), Cond.methodLink RX6 76 yX6_lowOf, Cond.instanceMethod yX6_lowOf, Cond.selects RX6 yX6_lowOf yX6_lowOf, Cond.code yX6_lowOf cX6_lowOf 5 (some .long), Cond.methodLink RX6 45 yX4_madeOf, Cond.instanceMethod yX4_madeOf, Cond.selects RX4 yX4_madeOf yX4_madeOf, Cond.code yX4_madeOf cX4_madeOf 3 (some .int), Cond.methodLink RX6 69 yX4_amountOf, Cond.instanceMethod yX4_amountOf, Cond.selects RX4 yX4_amountOf yX4_amountOf, Cond.code yX4_amountOf cX4_amountOf 3 (some .long), Cond.methodLink RX6 80 yX6_highOf, Cond.instanceMethod yX6_highOf, Cond.selects RX6 yX6_highOf yX6_highOf, Cond.code yX6_highOf cX6_highOf 5 (some .long), Cond.static yX11_apply]
noncomputable def wsL_law_r24 : List Cond := [Cond.code yX11_apply cX11_apply 7 (some .long), Cond.constantLong RX11 389 (1000), Cond.methodLink RX11 395 Lib.MathLoose.min_long.x, Cond.methodLink RX11 373 Lib.MathLoose.max_long.x, Cond.static Lib.MathLoose.max_long.x, Cond.code Lib.MathLoose.max_long.x Lib.MathLoose.max_long.code 4 (some .long), Cond.methodLink RX11 391 yX11_nearest, Cond.static yX11_nearest, Cond.code yX11_nearest cX11_nearest 8 (some .long), Cond.constantLong RX11 384 (2), Cond.methodLink RX11 386 yJ9_floorDiv_f86c9, Cond.static yJ9_floorDiv_f86c9, Cond.initialized RJ9, Cond.code yJ9_floorDiv_f86c9 cJ9_floorDiv_f86c9 6 (some .long), Cond.methodLink RX6 87 yX6_endProduct, Cond.instanceMethod yX6_endProduct, Cond.selects RX6 yX6_endProduct yX6_endProduct, Cond.code yX6_endProduct cX6_endProduct 10 (some .long), Cond.methodLink RX6 63 Lib.MathLoose.max_long.x, Cond.methodLink RX6 32 yX6_held, Cond.static yX6_held, Cond.code yX6_held cX6_held 2 (some .long), Cond.constantLong RX6 53 (-2000000000), Cond.constantLong RX6 55 (2000000000)]
noncomputable def wsL_law_r25 : List Cond := [Cond.methodLink RX6 36 yX6_highest, Cond.instanceMethod yX6_highest, Cond.selects RX6 yX6_highest yX6_highest, Cond.code yX6_highest cX6_highest 8 (some .long), Cond.methodLink RX6 39 yX6_amountOf, Cond.instanceMethod yX6_amountOf, Cond.selects RX6 yX6_amountOf yX6_amountOf, Cond.code yX6_amountOf cX6_amountOf 2 (some .long), Cond.methodLink RX6 66 Lib.MathLoose.abs_long.x, Cond.static Lib.MathLoose.abs_long.x, Cond.code Lib.MathLoose.abs_long.x Lib.MathLoose.abs_long.code 2 (some .long), Cond.methodLink RX6 49 yX6_isWide, Cond.instanceMethod yX6_isWide, Cond.selects RX6 yX6_isWide yX6_isWide, Cond.code yX6_isWide cX6_isWide 2 (some .boolean), Cond.methodLink RX11 111 yX2_fillFree, Cond.instanceMethod yX2_fillFree, Cond.selects RX2 yX2_fillFree yX2_fillFree, Cond.code yX2_fillFree cX2_fillFree 4 none, Cond.methodLink RX11 117 yX1_forget, Cond.instanceMethod yX1_forget, Cond.selects RX1 yX1_forget yX1_forget, Cond.code yX1_forget cX1_forget 1 none, Cond.fieldLink RX1 44 "ShortEnough$FullSearch" "ready" "Z"]
noncomputable def wsL_law_r26 : List Cond := [Cond.methodLink RX11 120 yX3_forget, Cond.instanceMethod yX3_forget, Cond.selects RX3 yX3_forget yX3_forget, Cond.code yX3_forget cX3_forget 1 none, Cond.fieldLink RX3 45 "ShortEnough$LocalSearch" "ready" "Z", Cond.methodLink RX11 121 yX0_forget, Cond.instanceMethod yX0_forget, Cond.selects RX0 yX0_forget yX0_forget, Cond.code yX0_forget cX0_forget 1 none, Cond.methodLink RL 27 yX12_task, Cond.instanceMethod yX12_task, Cond.selects RX12 yX12_task yX12_task, Cond.code yX12_task cX12_task 2 (some .int), Cond.methodLink RX12 231 yX12_goesWell, Cond.instanceMethod yX12_goesWell, Cond.selects RX12 yX12_goesWell yX12_goesWell, Cond.code yX12_goesWell cX12_goesWell 1 (some .boolean), Cond.methodLink RX12 235 yX12_here, Cond.instanceMethod yX12_here, Cond.selects RX12 yX12_here yX12_here, Cond.code yX12_here cX12_here 1 (some .int), Cond.methodLink RX12 228 yX12_byteAt, Cond.instanceMethod yX12_byteAt, Cond.selects RX12 yX12_byteAt yX12_byteAt]
noncomputable def wsL_law_r27 : List Cond := [Cond.code yX12_byteAt cX12_byteAt 2 (some .int), Cond.methodLink RX12 346 yX12_readsStatement, Cond.instanceMethod yX12_readsStatement, Cond.selects RX12 yX12_readsStatement yX12_readsStatement, Cond.code yX12_readsStatement cX12_readsStatement 6 none, Cond.constantLong RX12 296 (999), Cond.methodLink RX12 249 yX12_word, Cond.instanceMethod yX12_word, Cond.selects RX12 yX12_word yX12_word, Cond.code yX12_word cX12_word 1 none, Cond.methodLink RX12 243 yX12_isSmall, Cond.instanceMethod yX12_isSmall, Cond.selects RX12 yX12_isSmall yX12_isSmall, Cond.code yX12_isSmall cX12_isSmall 2 (some .boolean), Cond.methodLink RX12 246 yX12_isDigit, Cond.instanceMethod yX12_isDigit, Cond.selects RX12 yX12_isDigit yX12_isDigit, Cond.code yX12_isDigit cX12_isDigit 2 (some .boolean), Cond.methodLink RX12 239 yX12_faults, Cond.instanceMethod yX12_faults, Cond.selects RX12 yX12_faults yX12_faults, Cond.code yX12_faults cX12_faults 3 none, Cond.methodLink RX12 252 yX12_own, Cond.instanceMethod yX12_own]
noncomputable def wsL_law_r28 : List Cond := [Cond.selects RX12 yX12_own yX12_own, Cond.code yX12_own cX12_own 4 (some .int), Cond.methodLink RX12 325 yX12_isBeginning, Cond.static yX12_isBeginning, Cond.code yX12_isBeginning cX12_isBeginning 1 (some .boolean), Cond.methodLink RX12 328 yX12_readsFormat, Cond.instanceMethod yX12_readsFormat, Cond.selects RX12 yX12_readsFormat yX12_readsFormat, Cond.code yX12_readsFormat cX12_readsFormat 9 none, Cond.constantLong RX12 288 (1000000), Cond.constantLong RX12 294 (1000000000), Cond.methodLink RX12 282 yX12_newName, Cond.instanceMethod yX12_newName, Cond.selects RX12 yX12_newName yX12_newName, Cond.code yX12_newName cX12_newName 2 (some .int), Cond.methodLink RX12 273 yX12_name, Cond.instanceMethod yX12_name, Cond.selects RX12 yX12_name yX12_name, Cond.code yX12_name cX12_name 3 (some .int), Cond.methodLink RX12 276 yX12_formatNamed, Cond.instanceMethod yX12_formatNamed, Cond.selects RX12 yX12_formatNamed yX12_formatNamed, Cond.code yX12_formatNamed cX12_formatNamed 3 (some .int), Cond.methodLink RX12 267 yX12_f]
noncomputable def wsL_law_r29 : List Cond := [Cond.instanceMethod yX12_f, Cond.selects RX12 yX12_f yX12_f, Cond.code yX12_f cX12_f 2 (some .int), Cond.methodLink RX12 279 yX12_numberNamed, Cond.instanceMethod yX12_numberNamed, Cond.selects RX12 yX12_numberNamed yX12_numberNamed, Cond.code yX12_numberNamed cX12_numberNamed 3 (some .int), Cond.methodLink RX12 270 yX12_n, Cond.instanceMethod yX12_n, Cond.selects RX12 yX12_n yX12_n, Cond.code yX12_n cX12_n 2 (some .int), Cond.methodLink RX12 285 yX12_must, Cond.instanceMethod yX12_must, Cond.selects RX12 yX12_must yX12_must, Cond.code yX12_must cX12_must 2 none, Cond.methodLink RX12 290 yX12_number, Cond.instanceMethod yX12_number, Cond.selects RX12 yX12_number yX12_number, Cond.code yX12_number cX12_number 7 (some .long), Cond.methodLink RX12 259 yX12_digits, Cond.instanceMethod yX12_digits, Cond.selects RX12 yX12_digits yX12_digits, Cond.code yX12_digits cX12_digits 3 (some .long), Cond.constantLong RX12 255 (10)]
noncomputable def wsL_law_r30 : List Cond := [Cond.constantLong RX12 257 (48), Cond.methodLink RX12 263 yX12_isIn, Cond.static yX12_isIn, Cond.code yX12_isIn cX12_isIn 6 (some .boolean), Cond.methodLink RX12 331 yX12_readsInput, Cond.instanceMethod yX12_readsInput, Cond.selects RX12 yX12_readsInput yX12_readsInput, Cond.code yX12_readsInput cX12_readsInput 6 none, Cond.constantLong RX12 298 (-10000000), Cond.constantLong RX12 300 (10000000), Cond.methodLink RX12 302 yX12_signed, Cond.instanceMethod yX12_signed, Cond.selects RX12 yX12_signed yX12_signed, Cond.code yX12_signed cX12_signed 9 (some .long), Cond.methodLink RX12 305 yX12_newNumber, Cond.instanceMethod yX12_newNumber, Cond.selects RX12 yX12_newNumber yX12_newNumber, Cond.code yX12_newNumber cX12_newNumber 4 none, Cond.methodLink RX12 334 yX12_readsLet, Cond.instanceMethod yX12_readsLet, Cond.selects RX12 yX12_readsLet yX12_readsLet, Cond.code yX12_readsLet cX12_readsLet 10 none, Cond.methodLink RX12 313 yX12_mark, Cond.instanceMethod yX12_mark]
noncomputable def wsL_law_r31 : List Cond := [Cond.selects RX12 yX12_mark yX12_mark, Cond.code yX12_mark cX12_mark 2 none, Cond.methodLink RX12 316 yX12_readsWhat, Cond.instanceMethod yX12_readsWhat, Cond.selects RX12 yX12_readsWhat yX12_readsWhat, Cond.code yX12_readsWhat cX12_readsWhat 1 (some .int), Cond.constantLong RX12 308 (-1000000), Cond.methodLink RX12 310 yX12_toldNumber, Cond.instanceMethod yX12_toldNumber, Cond.selects RX12 yX12_toldNumber yX12_toldNumber, Cond.code yX12_toldNumber cX12_toldNumber 3 (some .int), Cond.methodLink RX12 319 yX12_readsOp, Cond.instanceMethod yX12_readsOp, Cond.selects RX12 yX12_readsOp yX12_readsOp, Cond.code yX12_readsOp cX12_readsOp 3 (some .int), Cond.methodLink RX12 337 yX12_readsFixed, Cond.instanceMethod yX12_readsFixed, Cond.selects RX12 yX12_readsFixed yX12_readsFixed, Cond.code yX12_readsFixed cX12_readsFixed 4 none, Cond.methodLink RX12 340 yX12_readsGroup, Cond.instanceMethod yX12_readsGroup, Cond.selects RX12 yX12_readsGroup yX12_readsGroup, Cond.code yX12_readsGroup cX12_readsGroup 7 none, Cond.methodLink RX12 322 yX12_lesser]
noncomputable def wsL_law_r32 : List Cond := [Cond.static yX12_lesser, Cond.code yX12_lesser cX12_lesser 4 (some .long), Cond.methodLink RX12 343 yX12_readsAnswer, Cond.instanceMethod yX12_readsAnswer, Cond.selects RX12 yX12_readsAnswer yX12_readsAnswer, Cond.code yX12_readsAnswer cX12_readsAnswer 4 none, Cond.methodLink RX12 349 yX12_copiesTask, Cond.instanceMethod yX12_copiesTask, Cond.selects RX12 yX12_copiesTask yX12_copiesTask, Cond.code yX12_copiesTask cX12_copiesTask 3 none, Cond.methodLink RX12 352 yX12_beginsChoice, Cond.instanceMethod yX12_beginsChoice, Cond.selects RX12 yX12_beginsChoice yX12_beginsChoice, Cond.code yX12_beginsChoice cX12_beginsChoice 3 none, Cond.methodLink RL 28 yX11_fault, Cond.instanceMethod yX11_fault, Cond.selects RX11 yX11_fault yX11_fault, Cond.code yX11_fault cX11_fault 2 (some .int), Cond.fieldLink RX11 131 "ShortEnough$Parser" "faultKind" "I", Cond.fieldLink RX11 134 "ShortEnough$Parser" "faultPlace" "I", Cond.methodLink RL 32 yX12_fault, Cond.instanceMethod yX12_fault, Cond.selects RX12 yX12_fault yX12_fault, Cond.code yX12_fault cX12_fault 2 (some .int)]
noncomputable def wsL_law_r33 : List Cond := [Cond.methodLink RL 33 yX11_has, Cond.instanceMethod yX11_has, Cond.selects RX11 yX11_has yX11_has, Cond.code yX11_has cX11_has 2 (some .int), Cond.fieldLink RX11 137 "ShortEnough$Task" "formats" "I", Cond.fieldLink RX11 140 "ShortEnough$Numbers" "inputs" "I", Cond.fieldLink RX11 146 "ShortEnough$Groups" "count" "I", Cond.fieldLink RX11 147 "ShortEnough$Groups" "free" "I", Cond.fieldLink RX11 150 "ShortEnough$Task" "castPrice" "I", Cond.methodLink RX11 143 yX4_countAnswers, Cond.instanceMethod yX4_countAnswers, Cond.selects RX4 yX4_countAnswers yX4_countAnswers, Cond.code yX4_countAnswers cX4_countAnswers 4 (some .int), Cond.methodLink RL 36 yX12_has, Cond.instanceMethod yX12_has, Cond.selects RX12 yX12_has yX12_has, Cond.code yX12_has cX12_has 2 (some .int), Cond.methodLink RX12 358 yX12_laysFree, Cond.instanceMethod yX12_laysFree, Cond.selects RX12 yX12_laysFree yX12_laysFree, Cond.code yX12_laysFree cX12_laysFree 2 none, Cond.methodLink RX12 355 yX12_isFree, Cond.instanceMethod yX12_isFree, Cond.selects RX12 yX12_isFree yX12_isFree]
noncomputable def wsL_law_r34 : List Cond := [Cond.code yX12_isFree cX12_isFree 3 (some .boolean), Cond.methodLink RX12 361 yX12_inputs, Cond.instanceMethod yX12_inputs, Cond.selects RX12 yX12_inputs yX12_inputs, Cond.code yX12_inputs cX12_inputs 3 (some .int), Cond.methodLink RX12 364 yX12_answers, Cond.instanceMethod yX12_answers, Cond.selects RX12 yX12_answers yX12_answers, Cond.code yX12_answers cX12_answers 3 (some .int), Cond.methodLink RX12 367 yX12_groups, Cond.instanceMethod yX12_groups, Cond.selects RX12 yX12_groups yX12_groups, Cond.code yX12_groups cX12_groups 3 (some .int), Cond.methodLink RL 37 yX11_letter, Cond.instanceMethod yX11_letter, Cond.selects RX11 yX11_letter yX11_letter, Cond.code yX11_letter cX11_letter 6 (some .int), Cond.fieldLink RX11 160 "ShortEnough$Task" "formatName" "[I", Cond.fieldLink RX11 163 "ShortEnough$Numbers" "name" "[I", Cond.methodLink RX11 153 yX9_hasFormat, Cond.instanceMethod yX9_hasFormat, Cond.selects RX9 yX9_hasFormat yX9_hasFormat, Cond.code yX9_hasFormat cX9_hasFormat 2 (some .boolean), Cond.methodLink RX11 157 yX9_hasNumber]
noncomputable def wsL_law_r35 : List Cond := [Cond.instanceMethod yX9_hasNumber, Cond.selects RX9 yX9_hasNumber yX9_hasNumber, Cond.code yX9_hasNumber cX9_hasNumber 2 (some .boolean), Cond.methodLink RX11 166 yX11_letterOf, Cond.static yX11_letterOf, Cond.code yX11_letterOf cX11_letterOf 2 (some .int), Cond.methodLink RL 41 yX12_letter, Cond.instanceMethod yX12_letter, Cond.selects RX12 yX12_letter yX12_letter, Cond.code yX12_letter cX12_letter 5 (some .int), Cond.constantLong RX12 376 (5), Cond.methodLink RX12 370 yX12_isFormat, Cond.instanceMethod yX12_isFormat, Cond.selects RX12 yX12_isFormat yX12_isFormat, Cond.code yX12_isFormat cX12_isFormat 2 (some .boolean), Cond.methodLink RX12 373 yX12_isNumber, Cond.instanceMethod yX12_isNumber, Cond.selects RX12 yX12_isNumber yX12_isNumber, Cond.code yX12_isNumber cX12_isNumber 2 (some .boolean), Cond.methodLink RL 42 yX11_format, Cond.instanceMethod yX11_format, Cond.selects RX11 yX11_format yX11_format, Cond.code yX11_format cX11_format 3 (some .int), Cond.fieldLink RX11 170 "ShortEnough$Task" "step" "[I"]
noncomputable def wsL_law_r36 : List Cond := [Cond.fieldLink RX11 173 "ShortEnough$Task" "most" "[I", Cond.fieldLink RX11 176 "ShortEnough$Task" "price" "[I", Cond.methodLink RL 46 yX12_format, Cond.instanceMethod yX12_format, Cond.selects RX12 yX12_format yX12_format, Cond.code yX12_format cX12_format 3 (some .int), Cond.methodLink RL 47 yX11_number, Cond.instanceMethod yX11_number, Cond.selects RX11 yX11_number yX11_number, Cond.code yX11_number cX11_number 3 (some .int), Cond.fieldLink RX11 179 "ShortEnough$Numbers" "op" "[I", Cond.fieldLink RX11 185 "ShortEnough$Groups" "of" "[I", Cond.fieldLink RX11 188 "ShortEnough$Numbers" "fixedAs" "[I", Cond.fieldLink RX11 191 "ShortEnough$Numbers" "allowed" "[I", Cond.methodLink RX11 182 yX4_madeOf, Cond.methodLink RL 50 yX12_number_, Cond.instanceMethod yX12_number_, Cond.selects RX12 yX12_number_ yX12_number_, Cond.code yX12_number_ cX12_number_ 3 (some .int), Cond.methodLink RX12 378 yX12_groupPlace, Cond.instanceMethod yX12_groupPlace, Cond.selects RX12 yX12_groupPlace yX12_groupPlace, Cond.code yX12_groupPlace cX12_groupPlace 4 (some .int), Cond.methodLink RL 51 yX11_told]
noncomputable def wsL_law_r37 : List Cond := [Cond.instanceMethod yX11_told, Cond.selects RX11 yX11_told yX11_told, Cond.code yX11_told cX11_told 3 (some .long), Cond.constantLong RX11 194 (-1000000000000000), Cond.methodLink RX11 196 yX4_amountOf, Cond.methodLink RL 55 yX12_told, Cond.instanceMethod yX12_told, Cond.selects RX12 yX12_told yX12_told, Cond.code yX12_told cX12_told 3 (some .long), Cond.constantLong RX12 381 (-1000000000000000), Cond.methodLink RL 56 yX11_range, Cond.instanceMethod yX11_range, Cond.selects RX11 yX11_range yX11_range, Cond.code yX11_range cX11_range 3 (some .long), Cond.fieldLink RX11 200 "ShortEnough$Task" "ranges" "LShortEnough$Ranges;", Cond.fieldLink RX11 203 "ShortEnough$Ranges" "wide" "[Z", Cond.fieldLink RX11 207 "ShortEnough$Ranges" "high" "[J", Cond.fieldLink RX11 211 "ShortEnough$Ranges" "low" "[J", Cond.methodLink RL 60 yX12_range, Cond.instanceMethod yX12_range, Cond.selects RX12 yX12_range yX12_range, Cond.code yX12_range cX12_range 4 (some .long), Cond.methodLink RX12 414 yX12_isGreatPart, Cond.instanceMethod yX12_isGreatPart]
noncomputable def wsL_law_r38 : List Cond := [Cond.selects RX12 yX12_isGreatPart yX12_isGreatPart, Cond.code yX12_isGreatPart cX12_isGreatPart 2 (some .boolean), Cond.methodLink RX12 417 yX12_laysRange, Cond.instanceMethod yX12_laysRange, Cond.selects RX12 yX12_laysRange yX12_laysRange, Cond.code yX12_laysRange cX12_laysRange 18 none, Cond.methodLink RX12 399 yX12_lowOf, Cond.instanceMethod yX12_lowOf, Cond.selects RX12 yX12_lowOf yX12_lowOf, Cond.code yX12_lowOf cX12_lowOf 4 (some .long), Cond.methodLink RX12 403 yX12_highOf, Cond.instanceMethod yX12_highOf, Cond.selects RX12 yX12_highOf yX12_highOf, Cond.code yX12_highOf cX12_highOf 4 (some .long), Cond.methodLink RX12 406 yX12_two, Cond.static yX12_two, Cond.code yX12_two cX12_two 7 (some .long), Cond.methodLink RX12 392 yX12_roundedProduct, Cond.static yX12_roundedProduct, Cond.code yX12_roundedProduct cX12_roundedProduct 6 (some .long), Cond.constantLong RX12 383 (2), Cond.constantLong RX12 388 (1000), Cond.constantLong RX12 390 (2000), Cond.methodLink RX12 385 yX12_floor]
noncomputable def wsL_law_r39 : List Cond := [Cond.static yX12_floor, Cond.code yX12_floor cX12_floor 6 (some .long), Cond.methodLink RX12 396 yX12_greater, Cond.static yX12_greater, Cond.code yX12_greater cX12_greater 4 (some .long), Cond.methodLink RX12 420 yX12_mostOf, Cond.instanceMethod yX12_mostOf, Cond.selects RX12 yX12_mostOf yX12_mostOf, Cond.code yX12_mostOf cX12_mostOf 2 (some .long), Cond.methodLink RX12 410 yX12_amount, Cond.static yX12_amount, Cond.code yX12_amount cX12_amount 2 (some .long), Cond.methodLink RL 61 yX11_uses, Cond.instanceMethod yX11_uses, Cond.selects RX11 yX11_uses yX11_uses, Cond.code yX11_uses cX11_uses 2 (some .int), Cond.methodLink RX11 214 yX4_madeFrom, Cond.instanceMethod yX4_madeFrom, Cond.selects RX4 yX4_madeFrom yX4_madeFrom, Cond.code yX4_madeFrom cX4_madeFrom 4 (some .int), Cond.methodLink RX4 53 yX4_madeOf, Cond.methodLink RX4 56 yX4_isAmong, Cond.static yX4_isAmong, Cond.code yX4_isAmong cX4_isAmong 3 (some .boolean)]
noncomputable def wsL_law_r40 : List Cond := [Cond.methodLink RL 64 yX12_uses, Cond.instanceMethod yX12_uses, Cond.selects RX12 yX12_uses yX12_uses, Cond.code yX12_uses cX12_uses 5 (some .int), Cond.methodLink RL 65 yX11_depth, Cond.instanceMethod yX11_depth, Cond.selects RX11 yX11_depth yX11_depth, Cond.code yX11_depth cX11_depth 2 (some .int), Cond.fieldLink RX11 217 "ShortEnough$Numbers" "lets" "[I", Cond.methodLink RL 68 yX12_depth, Cond.instanceMethod yX12_depth, Cond.selects RX12 yX12_depth yX12_depth, Cond.code yX12_depth cX12_depth 5 (some .int), Cond.methodLink RX12 424 yX12_deepOf, Cond.instanceMethod yX12_deepOf, Cond.selects RX12 yX12_deepOf yX12_deepOf, Cond.code yX12_deepOf cX12_deepOf 2 (some .int), Cond.methodLink RL 69 yX11_chosen, Cond.instanceMethod yX11_chosen, Cond.selects RX11 yX11_chosen yX11_chosen, Cond.code yX11_chosen cX11_chosen 2 (some .int), Cond.methodLink RX11 220 yX9_hasChoice, Cond.instanceMethod yX9_hasChoice, Cond.selects RX9 yX9_hasChoice yX9_hasChoice]
noncomputable def wsL_law_r41 : List Cond := [Cond.code yX9_hasChoice cX9_hasChoice 1 (some .boolean), Cond.fieldLink RX9 66 "ShortEnough$Groups" "clash" "Z", Cond.methodLink RX11 224 yX9_formatOf, Cond.instanceMethod yX9_formatOf, Cond.selects RX9 yX9_formatOf yX9_formatOf, Cond.code yX9_formatOf cX9_formatOf 4 (some .int), Cond.fieldLink RX9 80 "ShortEnough$Groups" "of" "[I", Cond.methodLink RL 72 yX12_chosen, Cond.instanceMethod yX12_chosen, Cond.selects RX12 yX12_chosen yX12_chosen, Cond.code yX12_chosen cX12_chosen 2 (some .int), Cond.methodLink RL 73 yX11_choose, Cond.instanceMethod yX11_choose, Cond.selects RX11 yX11_choose yX11_choose, Cond.code yX11_choose cX11_choose 5 (some .int), Cond.methodLink RX11 228 yX9_isFree, Cond.instanceMethod yX9_isFree, Cond.selects RX9 yX9_isFree yX9_isFree, Cond.code yX9_isFree cX9_isFree 2 (some .boolean), Cond.methodLink RX9 70 yX9_hasNumber, Cond.methodLink RX9 83 yX2_isFree, Cond.instanceMethod yX2_isFree, Cond.selects RX2 yX2_isFree yX2_isFree, Cond.code yX2_isFree cX2_isFree 2 (some .boolean)]
noncomputable def wsL_law_r42 : List Cond := [Cond.methodLink RL 76 yX12_choose, Cond.instanceMethod yX12_choose, Cond.selects RX12 yX12_choose yX12_choose, Cond.code yX12_choose cX12_choose 5 (some .int), Cond.methodLink RL 77 yX11_cost, Cond.instanceMethod yX11_cost, Cond.selects RX11 yX11_cost yX11_cost, Cond.code yX11_cost cX11_cost 1 (some .int), Cond.methodLink RX11 231 yX9_priceOf, Cond.instanceMethod yX9_priceOf, Cond.selects RX9 yX9_priceOf yX9_priceOf, Cond.code yX9_priceOf cX9_priceOf 5 (some .int), Cond.methodLink RX9 94 yX9_castsOf, Cond.instanceMethod yX9_castsOf, Cond.selects RX9 yX9_castsOf yX9_castsOf, Cond.code yX9_castsOf cX9_castsOf 6 (some .int), Cond.methodLink RX9 86 yX4_madeOf, Cond.methodLink RX9 90 yX9_formatOf, Cond.methodLink RX9 98 yX9_hasFormat, Cond.methodLink RL 80 yX12_cost, Cond.instanceMethod yX12_cost, Cond.selects RX12 yX12_cost yX12_cost, Cond.code yX12_cost cX12_cost 1 (some .int), Cond.methodLink RX12 446 yX12_isThere]
noncomputable def wsL_law_r43 : List Cond := [Cond.instanceMethod yX12_isThere, Cond.selects RX12 yX12_isThere yX12_isThere, Cond.code yX12_isThere cX12_isThere 1 (some .boolean), Cond.methodLink RX12 440 yX12_triesHand, Cond.instanceMethod yX12_triesHand, Cond.selects RX12 yX12_triesHand yX12_triesHand, Cond.code yX12_triesHand cX12_triesHand 2 none, Cond.methodLink RX12 449 yX12_costTried, Cond.instanceMethod yX12_costTried, Cond.selects RX12 yX12_costTried yX12_costTried, Cond.code yX12_costTried cX12_costTried 3 (some .int), Cond.methodLink RX12 437 yX12_castsTried, Cond.instanceMethod yX12_castsTried, Cond.selects RX12 yX12_castsTried yX12_castsTried, Cond.code yX12_castsTried cX12_castsTried 3 (some .int), Cond.methodLink RX12 433 yX12_isCast, Cond.instanceMethod yX12_isCast, Cond.selects RX12 yX12_isCast yX12_isCast, Cond.code yX12_isCast cX12_isCast 3 (some .boolean), Cond.methodLink RL 81 yX11_casts, Cond.instanceMethod yX11_casts, Cond.selects RX11 yX11_casts yX11_casts, Cond.code yX11_casts cX11_casts 1 (some .int), Cond.methodLink RX11 235 yX9_castsOf]
noncomputable def wsL_law_r44 : List Cond := [Cond.methodLink RL 84 yX12_casts, Cond.instanceMethod yX12_casts, Cond.selects RX12 yX12_casts yX12_casts, Cond.code yX12_casts cX12_casts 1 (some .int), Cond.methodLink RL 85 yX11_fails, Cond.instanceMethod yX11_fails, Cond.selects RX11 yX11_fails yX11_fails, Cond.code yX11_fails cX11_fails 1 (some .int), Cond.fieldLink RX11 242 "ShortEnough$Reckoning" "failsAt" "I", Cond.methodLink RX11 238 yX7_reckon, Cond.instanceMethod yX7_reckon, Cond.selects RX7 yX7_reckon yX7_reckon, Cond.code yX7_reckon cX7_reckon 6 (some .boolean), Cond.fieldLink RX7 15 "ShortEnough$Reckoning" "failsAt" "I", Cond.fieldLink RX7 19 "ShortEnough$Reckoning" "reason" "I", Cond.fieldLink RX7 22 "ShortEnough$Task" "numbers" "LShortEnough$Numbers;", Cond.fieldLink RX7 28 "ShortEnough$Numbers" "count" "I", Cond.fieldLink RX7 55 "ShortEnough$Numbers" "allowed" "[I", Cond.methodLink RX7 33 yX7_errorOf, Cond.instanceMethod yX7_errorOf, Cond.selects RX7 yX7_errorOf yX7_errorOf, Cond.code yX7_errorOf cX7_errorOf 17 (some .long), Cond.fieldLink RX7 62 "ShortEnough$Numbers" "op" "[I", Cond.methodLink RX7 69 Lib.MathLoose.max_long.x]
noncomputable def wsL_law_r45 : List Cond := [Cond.constantLong RX7 79 (999), Cond.constantLong RX7 81 (1000), Cond.methodLink RX7 37 yX9_formatOf, Cond.methodLink RX7 59 yX9_stepOf, Cond.instanceMethod yX9_stepOf, Cond.selects RX9 yX9_stepOf yX9_stepOf, Cond.code yX9_stepOf cX9_stepOf 2 (some .int), Cond.methodLink RX7 65 yX7_errorBehindCast, Cond.instanceMethod yX7_errorBehindCast, Cond.selects RX7 yX7_errorBehindCast yX7_errorBehindCast, Cond.code yX7_errorBehindCast cX7_errorBehindCast 10 (some .long), Cond.methodLink RX7 83 yX4_madeOf, Cond.methodLink RX7 87 yX4_amountOf, Cond.static yX11_divides, Cond.code yX11_divides cX11_divides 4 (some .boolean), Cond.methodLink RX7 75 yX6_amountOfWhat, Cond.instanceMethod yX6_amountOfWhat, Cond.selects RX6 yX6_amountOfWhat yX6_amountOfWhat, Cond.code yX6_amountOfWhat cX6_amountOfWhat 5 (some .long), Cond.methodLink RX7 41 yX9_mostOf, Cond.instanceMethod yX9_mostOf, Cond.selects RX9 yX9_mostOf yX9_mostOf, Cond.code yX9_mostOf cX9_mostOf 2 (some .int), Cond.methodLink RX7 45 yX6_amountOf]
noncomputable def wsL_law_r46 : List Cond := [Cond.methodLink RX7 51 yX9_isAnswer, Cond.instanceMethod yX9_isAnswer, Cond.selects RX9 yX9_isAnswer yX9_isAnswer, Cond.code yX9_isAnswer cX9_isAnswer 2 (some .boolean), Cond.fieldLink RX9 74 "ShortEnough$Numbers" "allowed" "[I", Cond.methodLink RL 88 yX12_fails, Cond.instanceMethod yX12_fails, Cond.selects RX12 yX12_fails yX12_fails, Cond.code yX12_fails cX12_fails 1 (some .int), Cond.methodLink RX12 452 yX12_handPasses, Cond.instanceMethod yX12_handPasses, Cond.selects RX12 yX12_handPasses yX12_handPasses, Cond.code yX12_handPasses cX12_handPasses 1 (some .boolean), Cond.methodLink RX12 443 yX12_passes, Cond.instanceMethod yX12_passes, Cond.selects RX12 yX12_passes yX12_passes, Cond.code yX12_passes cX12_passes 2 (some .boolean), Cond.methodLink RX12 430 yX12_laysError, Cond.instanceMethod yX12_laysError, Cond.selects RX12 yX12_laysError yX12_laysError, Cond.code yX12_laysError cX12_laysError 12 none, Cond.methodLink RX12 427 yX12_castError, Cond.instanceMethod yX12_castError, Cond.selects RX12 yX12_castError yX12_castError]
noncomputable def wsL_law_r47 : List Cond := [Cond.code yX12_castError cX12_castError 6 (some .long), Cond.methodLink RL 89 yX11_why, Cond.instanceMethod yX11_why, Cond.selects RX11 yX11_why yX11_why, Cond.code yX11_why cX11_why 1 (some .int), Cond.fieldLink RX11 245 "ShortEnough$Reckoning" "reason" "I", Cond.methodLink RL 92 yX12_why, Cond.instanceMethod yX12_why, Cond.selects RX12 yX12_why yX12_why, Cond.code yX12_why cX12_why 1 (some .int), Cond.methodLink RL 93 yX11_error, Cond.instanceMethod yX11_error, Cond.selects RX11 yX11_error yX11_error, Cond.code yX11_error cX11_error 3 (some .long), Cond.fieldLink RX11 248 "ShortEnough$Reckoning" "errors" "[J", Cond.methodLink RL 97 yX12_error, Cond.instanceMethod yX12_error, Cond.selects RX12 yX12_error yX12_error, Cond.code yX12_error cX12_error 3 (some .long), Cond.methodLink RL 98 yX11_slack, Cond.instanceMethod yX11_slack, Cond.selects RX11 yX11_slack yX11_slack, Cond.code yX11_slack cX11_slack 2 (some .long), Cond.methodLink RX11 251 yX9_isAnswer]
noncomputable def wsL_law_r48 : List Cond := [Cond.methodLink RX11 254 yX11_handPasses, Cond.instanceMethod yX11_handPasses, Cond.selects RX11 yX11_handPasses yX11_handPasses, Cond.code yX11_handPasses cX11_handPasses 1 (some .boolean), Cond.methodLink RL 101 yX12_slack, Cond.instanceMethod yX12_slack, Cond.selects RX12 yX12_slack yX12_slack, Cond.code yX12_slack cX12_slack 2 (some .long), Cond.methodLink RX12 455 yX12_isAnswer, Cond.instanceMethod yX12_isAnswer, Cond.selects RX12 yX12_isAnswer yX12_isAnswer, Cond.code yX12_isAnswer cX12_isAnswer 2 (some .boolean), Cond.methodLink RL 102 yX11_widest, Cond.instanceMethod yX11_widest, Cond.selects RX11 yX11_widest yX11_widest, Cond.code yX11_widest cX11_widest 6 (some .int), Cond.constant RX11 260 (10000000), Cond.methodLink RX11 257 yX9_isInput, Cond.instanceMethod yX9_isInput, Cond.selects RX9 yX9_isInput yX9_isInput, Cond.code yX9_isInput cX9_isInput 2 (some .boolean), Cond.fieldLink RX9 77 "ShortEnough$Numbers" "op" "[I", Cond.methodLink RX11 261 yX11_passesLonger, Cond.instanceMethod yX11_passesLonger]
noncomputable def wsL_law_r49 : List Cond := [Cond.selects RX11 yX11_passesLonger yX11_passesLonger, Cond.code yX11_passesLonger cX11_passesLonger 3 (some .boolean), Cond.methodLink RX11 377 yX6_fill, Cond.methodLink RL 105 yX12_widest, Cond.instanceMethod yX12_widest, Cond.selects RX12 yX12_widest yX12_widest, Cond.code yX12_widest cX12_widest 5 (some .int), Cond.constant RX12 458 (10000000), Cond.methodLink RL 106 yX11_blame, Cond.instanceMethod yX11_blame, Cond.selects RX11 yX11_blame yX11_blame, Cond.code yX11_blame cX11_blame 3 (some .long), Cond.methodLink RX11 265 yX11_copyChoice, Cond.static yX11_copyChoice, Cond.code yX11_copyChoice cX11_copyChoice 3 none, Cond.methodLink RX11 269 yX9_finestFormat, Cond.instanceMethod yX9_finestFormat, Cond.selects RX9 yX9_finestFormat yX9_finestFormat, Cond.code yX9_finestFormat cX9_finestFormat 3 (some .int), Cond.methodLink RL 109 yX12_blame, Cond.instanceMethod yX12_blame, Cond.selects RX12 yX12_blame yX12_blame, Cond.code yX12_blame cX12_blame 5 (some .long), Cond.methodLink RX12 459 yX12_finest]
noncomputable def wsL_law_r50 : List Cond := [Cond.instanceMethod yX12_finest, Cond.selects RX12 yX12_finest yX12_finest, Cond.code yX12_finest cX12_finest 3 (some .int), Cond.methodLink RX12 462 yX12_triesGroup, Cond.instanceMethod yX12_triesGroup, Cond.selects RX12 yX12_triesGroup yX12_triesGroup, Cond.code yX12_triesGroup cX12_triesGroup 4 none, Cond.methodLink RL 110 yX11_cheapest, Cond.instanceMethod yX11_cheapest, Cond.selects RX11 yX11_cheapest yX11_cheapest, Cond.code yX11_cheapest cX11_cheapest 2 (some .int), Cond.fieldLink RX11 277 "ShortEnough$FullSearch" "best" "I", Cond.fieldLink RX11 280 "ShortEnough$FullSearch" "bestPrice" "I", Cond.methodLink RX11 273 yX1_search, Cond.instanceMethod yX1_search, Cond.selects RX1 yX1_search yX1_search, Cond.code yX1_search cX1_search 2 (some .boolean), Cond.fieldLink RX1 48 "ShortEnough$Task" "numbers" "LShortEnough$Numbers;", Cond.fieldLink RX1 54 "ShortEnough$Numbers" "count" "I", Cond.fieldLink RX1 59 "ShortEnough$Task" "groups" "LShortEnough$Groups;", Cond.fieldLink RX1 63 "ShortEnough$Groups" "free" "I", Cond.fieldLink RX1 68 "ShortEnough$FullSearch" "many" "I", Cond.methodLink RX1 71 yX9_hasChoice, Cond.methodLink RX1 75 yX1_searchAll]
noncomputable def wsL_law_r51 : List Cond := [Cond.instanceMethod yX1_searchAll, Cond.selects RX1 yX1_searchAll yX1_searchAll, Cond.code yX1_searchAll cX1_searchAll 4 none, Cond.fieldLink RX1 79 "ShortEnough$Task" "formats" "I", Cond.fieldLink RX1 86 "ShortEnough$FullSearch" "answers" "I", Cond.fieldLink RX1 97 "ShortEnough$Task" "ranges" "LShortEnough$Ranges;", Cond.methodLink RX1 82 yX4_countAnswers, Cond.methodLink RX1 89 yX1_makeRoom, Cond.instanceMethod yX1_makeRoom, Cond.selects RX1 yX1_makeRoom yX1_makeRoom, Cond.code yX1_makeRoom cX1_makeRoom 2 none, Cond.methodLink RX1 93 yX1_unfold, Cond.static yX1_unfold, Cond.code yX1_unfold cX1_unfold 6 none, Cond.fieldLink RX1 113 "ShortEnough$Groups" "count" "I", Cond.fieldLink RX1 114 "ShortEnough$Groups" "fixedAs" "[I", Cond.methodLink RX1 101 yX7_reckon, Cond.methodLink RX1 105 yX9_priceOf, Cond.methodLink RX1 109 yX1_keep, Cond.instanceMethod yX1_keep, Cond.selects RX1 yX1_keep yX1_keep, Cond.code yX1_keep cX1_keep 6 none, Cond.fieldLink RX1 121 "ShortEnough$Reckoning" "errors" "[J", Cond.fieldLink RX1 124 "ShortEnough$FullSearch" "bestPrice" "I"]
noncomputable def wsL_law_r52 : List Cond := [Cond.methodLink RX1 117 yX9_isAnswer, Cond.methodLink RX11 283 yX1_unfold, Cond.methodLink RL 113 yX12_cheapest, Cond.instanceMethod yX12_cheapest, Cond.selects RX12 yX12_cheapest yX12_cheapest, Cond.code yX12_cheapest cX12_cheapest 3 (some .int), Cond.methodLink RX12 471 yX12_canSearch, Cond.instanceMethod yX12_canSearch, Cond.selects RX12 yX12_canSearch yX12_canSearch, Cond.code yX12_canSearch cX12_canSearch 1 (some .boolean), Cond.methodLink RX12 474 yX12_cheapestChoice, Cond.instanceMethod yX12_cheapestChoice, Cond.selects RX12 yX12_cheapestChoice yX12_cheapestChoice, Cond.code yX12_cheapestChoice cX12_cheapestChoice 6 (some .int), Cond.methodLink RX12 465 yX12_allChoices, Cond.instanceMethod yX12_allChoices, Cond.selects RX12 yX12_allChoices yX12_allChoices, Cond.code yX12_allChoices cX12_allChoices 3 (some .int), Cond.methodLink RX12 468 yX12_triesChoice, Cond.instanceMethod yX12_triesChoice, Cond.selects RX12 yX12_triesChoice yX12_triesChoice, Cond.code yX12_triesChoice cX12_triesChoice 4 none, Cond.methodLink RL 114 yX11_passing, Cond.instanceMethod yX11_passing]
noncomputable def wsL_law_r53 : List Cond := [Cond.selects RX11 yX11_passing yX11_passing, Cond.code yX11_passing cX11_passing 1 (some .int), Cond.fieldLink RX11 287 "ShortEnough$FullSearch" "many" "I", Cond.methodLink RL 117 yX12_passing, Cond.instanceMethod yX12_passing, Cond.selects RX12 yX12_passing yX12_passing, Cond.code yX12_passing cX12_passing 4 (some .int), Cond.methodLink RL 118 yX11_halves, Cond.instanceMethod yX11_halves, Cond.selects RX11 yX11_halves yX11_halves, Cond.code yX11_halves cX11_halves 2 (some .int), Cond.fieldLink RX11 293 "ShortEnough$LocalSearch" "tries" "I", Cond.fieldLink RX11 296 "ShortEnough$LocalSearch" "price" "I", Cond.fieldLink RX11 298 "ShortEnough$LocalSearch" "row" "[I", Cond.methodLink RX11 290 yX3_goByHalves, Cond.instanceMethod yX3_goByHalves, Cond.selects RX3 yX3_goByHalves yX3_goByHalves, Cond.code yX3_goByHalves cX3_goByHalves 4 (some .boolean), Cond.fieldLink RX3 55 "ShortEnough$LocalSearch" "started" "Z", Cond.fieldLink RX3 62 "ShortEnough$Task" "groups" "LShortEnough$Groups;", Cond.fieldLink RX3 72 "ShortEnough$LocalSearch" "tries" "I", Cond.fieldLink RX3 75 "ShortEnough$Task" "ranges" "LShortEnough$Ranges;", Cond.fieldLink RX3 87 "ShortEnough$LocalSearch" "price" "I", Cond.fieldLink RX3 90 "ShortEnough$Task" "formats" "I"]
noncomputable def wsL_law_r54 : List Cond := [Cond.methodLink RX3 49 yX9_hasChoice, Cond.methodLink RX3 58 yX9_finestFormat, Cond.methodLink RX3 66 yX2_fillFree, Cond.methodLink RX3 79 yX7_reckon, Cond.methodLink RX3 83 yX9_priceOf, Cond.methodLink RX3 93 yX3_halveWith, Cond.instanceMethod yX3_halveWith, Cond.selects RX3 yX3_halveWith yX3_halveWith, Cond.code yX3_halveWith cX3_halveWith 9 none, Cond.fieldLink RX3 101 "ShortEnough$LocalSearch" "parts" "I", Cond.methodLink RX3 97 yX3_findUnchanged, Cond.instanceMethod yX3_findUnchanged, Cond.selects RX3 yX3_findUnchanged yX3_findUnchanged, Cond.code yX3_findUnchanged cX3_findUnchanged 4 (some .int), Cond.fieldLink RX3 112 "ShortEnough$Groups" "count" "I", Cond.fieldLink RX3 115 "ShortEnough$Groups" "fixedAs" "[I", Cond.methodLink RX3 104 yX3_addPart, Cond.instanceMethod yX3_addPart, Cond.selects RX3 yX3_addPart yX3_addPart, Cond.code yX3_addPart cX3_addPart 3 none, Cond.methodLink RX3 108 yX3_changePart, Cond.instanceMethod yX3_changePart, Cond.selects RX3 yX3_changePart yX3_changePart, Cond.code yX3_changePart cX3_changePart 8 (some .boolean)]
noncomputable def wsL_law_r55 : List Cond := [Cond.methodLink RX3 118 yX3_setPart, Cond.instanceMethod yX3_setPart, Cond.selects RX3 yX3_setPart yX3_setPart, Cond.code yX3_setPart cX3_setPart 5 none, Cond.methodLink RL 121 yX12_halves, Cond.instanceMethod yX12_halves, Cond.selects RX12 yX12_halves yX12_halves, Cond.code yX12_halves cX12_halves 2 (some .int), Cond.methodLink RX12 487 yX12_halve, Cond.instanceMethod yX12_halve, Cond.selects RX12 yX12_halve yX12_halve, Cond.code yX12_halve cX12_halve 3 (some .boolean), Cond.methodLink RX12 477 yX12_keepsTried, Cond.instanceMethod yX12_keepsTried, Cond.selects RX12 yX12_keepsTried yX12_keepsTried, Cond.code yX12_keepsTried cX12_keepsTried 2 none, Cond.methodLink RX12 484 yX12_halvesBy, Cond.instanceMethod yX12_halvesBy, Cond.selects RX12 yX12_halvesBy yX12_halvesBy, Cond.code yX12_halvesBy cX12_halvesBy 7 none, Cond.methodLink RX12 480 yX12_isBetter, Cond.instanceMethod yX12_isBetter, Cond.selects RX12 yX12_isBetter yX12_isBetter, Cond.code yX12_isBetter cX12_isBetter 5 (some .boolean)]
noncomputable def wsL_law_r56 : List Cond := [Cond.methodLink RL 122 yX11_single, Cond.instanceMethod yX11_single, Cond.selects RX11 yX11_single yX11_single, Cond.code yX11_single cX11_single 2 (some .int), Cond.fieldLink RX11 305 "ShortEnough$LocalSearch" "passed" "I", Cond.fieldLink RX11 308 "ShortEnough$LocalSearch" "cheaper" "I", Cond.fieldLink RX11 311 "ShortEnough$LocalSearch" "bestGroup" "I", Cond.fieldLink RX11 317 "ShortEnough$LocalSearch" "bestFormat" "I", Cond.methodLink RX11 301 yX3_lookAround, Cond.instanceMethod yX3_lookAround, Cond.selects RX3 yX3_lookAround yX3_lookAround, Cond.code yX3_lookAround cX3_lookAround 8 none, Cond.fieldLink RX3 122 "ShortEnough$LocalSearch" "passed" "I", Cond.fieldLink RX3 125 "ShortEnough$LocalSearch" "cheaper" "I", Cond.methodLink RX11 314 yX2_leaderOf, Cond.instanceMethod yX2_leaderOf, Cond.selects RX2 yX2_leaderOf yX2_leaderOf, Cond.code yX2_leaderOf cX2_leaderOf 2 (some .int), Cond.methodLink RL 125 yX12_single, Cond.instanceMethod yX12_single, Cond.selects RX12 yX12_single yX12_single, Cond.code yX12_single cX12_single 2 (some .int), Cond.constantLong RX12 490 (3), Cond.methodLink RX12 492 yX12_laysSingle]
noncomputable def wsL_law_r57 : List Cond := [Cond.instanceMethod yX12_laysSingle, Cond.selects RX12 yX12_laysSingle yX12_laysSingle, Cond.code yX12_laysSingle cX12_laysSingle 6 none, Cond.methodLink RL 126 yX11_take, Cond.instanceMethod yX11_take, Cond.selects RX11 yX11_take yX11_take, Cond.code yX11_take cX11_take 3 (some .int), Cond.methodLink RX11 320 yX11_takeCheapest, Cond.instanceMethod yX11_takeCheapest, Cond.selects RX11 yX11_takeCheapest yX11_takeCheapest, Cond.code yX11_takeCheapest cX11_takeCheapest 1 (some .boolean), Cond.methodLink RX11 323 yX11_takeSingle, Cond.instanceMethod yX11_takeSingle, Cond.selects RX11 yX11_takeSingle yX11_takeSingle, Cond.code yX11_takeSingle cX11_takeSingle 1 (some .boolean), Cond.methodLink RX11 381 yX2_isFree, Cond.methodLink RL 129 yX12_take, Cond.instanceMethod yX12_take, Cond.selects RX12 yX12_take yX12_take, Cond.code yX12_take cX12_take 2 (some .int), Cond.methodLink RX12 495 yX12_canTake, Cond.instanceMethod yX12_canTake, Cond.selects RX12 yX12_canTake yX12_canTake, Cond.code yX12_canTake cX12_canTake 4 (some .boolean)]
noncomputable def wsL_law_r58 : List Cond := [Cond.methodLink RX12 498 yX12_takesTried, Cond.instanceMethod yX12_takesTried, Cond.selects RX12 yX12_takesTried yX12_takesTried, Cond.code yX12_takesTried cX12_takesTried 2 none, Cond.methodLink RL 130 yX11_front, Cond.instanceMethod yX11_front, Cond.selects RX11 yX11_front yX11_front, Cond.code yX11_front cX11_front 4 (some .long), Cond.fieldLink RX11 330 "ShortEnough$FullSearch" "frontSize" "I", Cond.fieldLink RX11 333 "ShortEnough$FullSearch" "frontPrice" "[I", Cond.fieldLink RX11 336 "ShortEnough$FullSearch" "frontError" "[I", Cond.fieldLink RX11 339 "ShortEnough$FullSearch" "frontMany" "[I", Cond.methodLink RX11 326 yX1_drawFront, Cond.instanceMethod yX1_drawFront, Cond.selects RX1 yX1_drawFront yX1_drawFront, Cond.code yX1_drawFront cX1_drawFront 7 none, Cond.fieldLink RX1 134 "ShortEnough$FullSearch" "frontSize" "I", Cond.constant RX1 127 (1000001), Cond.methodLink RX1 137 yX1_cheapestBelow, Cond.instanceMethod yX1_cheapestBelow, Cond.selects RX1 yX1_cheapestBelow yX1_cheapestBelow, Cond.code yX1_cheapestBelow cX1_cheapestBelow 6 (some .int), Cond.methodLink RX1 130 yX1_errorAt, Cond.instanceMethod yX1_errorAt]
noncomputable def wsL_law_r59 : List Cond := [Cond.selects RX1 yX1_errorAt yX1_errorAt, Cond.code yX1_errorAt cX1_errorAt 4 (some .int), Cond.methodLink RX1 140 yX1_countAlike, Cond.instanceMethod yX1_countAlike, Cond.selects RX1 yX1_countAlike yX1_countAlike, Cond.code yX1_countAlike cX1_countAlike 6 (some .int), Cond.methodLink RL 134 yX12_front, Cond.instanceMethod yX12_front, Cond.selects RX12 yX12_front yX12_front, Cond.code yX12_front cX12_front 4 (some .long), Cond.methodLink RX12 505 yX12_laysFront, Cond.instanceMethod yX12_laysFront, Cond.selects RX12 yX12_laysFront yX12_laysFront, Cond.code yX12_laysFront cX12_laysFront 5 none, Cond.methodLink RX12 501 yX12_laysCouple, Cond.instanceMethod yX12_laysCouple, Cond.selects RX12 yX12_laysCouple yX12_laysCouple, Cond.code yX12_laysCouple cX12_laysCouple 6 none, Cond.methodLink RL 135 yX11_least, Cond.instanceMethod yX11_least, Cond.selects RX11 yX11_least yX11_least, Cond.code yX11_least cX11_least 3 (some .long), Cond.methodLink RX11 342 yX1_leastWithin, Cond.instanceMethod yX1_leastWithin]
noncomputable def wsL_law_r60 : List Cond := [Cond.selects RX1 yX1_leastWithin yX1_leastWithin, Cond.code yX1_leastWithin cX1_leastWithin 8 (some .long), Cond.constantLong RX1 128 (-1000000000000000), Cond.methodLink RL 138 yX12_least, Cond.instanceMethod yX12_least, Cond.selects RX12 yX12_least yX12_least, Cond.code yX12_least cX12_least 7 (some .long), Cond.methodLink RL 139 yX11_certificate, Cond.instanceMethod yX11_certificate, Cond.selects RX11 yX11_certificate yX11_certificate, Cond.code yX11_certificate cX11_certificate 4 (some .int), Cond.methodLink RX11 346 yX11_byteOf, Cond.static yX11_byteOf, Cond.code yX11_byteOf cX11_byteOf 3 (some .int), Cond.constantLong RX11 382 (255), Cond.methodLink RL 142 yX12_certificate, Cond.instanceMethod yX12_certificate, Cond.selects RX12 yX12_certificate yX12_certificate, Cond.code yX12_certificate cX12_certificate 4 (some .int), Cond.methodLink RX12 510 yX12_byteOf, Cond.static yX12_byteOf, Cond.code yX12_byteOf cX12_byteOf 3 (some .int), Cond.constantLong RX12 508 (255), Cond.methodLink RL 143 yX11_check]
noncomputable def wsL_law_r61 : List Cond := [Cond.instanceMethod yX11_check, Cond.selects RX11 yX11_check yX11_check, Cond.code yX11_check cX11_check 2 (some .boolean), Cond.methodLink RX11 350 yX0_holds, Cond.instanceMethod yX0_holds, Cond.selects RX0 yX0_holds yX0_holds, Cond.code yX0_holds cX0_holds 8 (some .boolean), Cond.fieldLink RX0 39 "ShortEnough$Task" "numbers" "LShortEnough$Numbers;", Cond.fieldLink RX0 45 "ShortEnough$Numbers" "count" "I", Cond.fieldLink RX0 50 "ShortEnough$Task" "groups" "LShortEnough$Groups;", Cond.methodLink RX0 36 yX0_forget, Cond.methodLink RX0 54 yX2_fillFree, Cond.methodLink RX0 60 yX0_whyNot, Cond.instanceMethod yX0_whyNot, Cond.selects RX0 yX0_whyNot yX0_whyNot, Cond.code yX0_whyNot cX0_whyNot 10 (some .int), Cond.fieldLink RX0 64 "ShortEnough$Groups" "of" "[I", Cond.fieldLink RX0 71 "ShortEnough$Ranges" "low" "[J", Cond.fieldLink RX0 79 "ShortEnough$Ranges" "high" "[J", Cond.fieldLink RX0 82 "ShortEnough$Reckoning" "errors" "[J", Cond.fieldLink RX0 107 "ShortEnough$Numbers" "allowed" "[I", Cond.methodLink RX0 67 yX9_hasFormat, Cond.methodLink RX0 75 yX0_readLong, Cond.static yX0_readLong]
noncomputable def wsL_law_r62 : List Cond := [Cond.code yX0_readLong cX0_readLong 5 (some .long), Cond.constantLong RX0 110 (-1000000000000), Cond.constantLong RX0 112 (1000000000000), Cond.methodLink RX0 114 Lib.MathLoose.min_long.x, Cond.methodLink RX0 120 Lib.MathLoose.max_long.x, Cond.methodLink RX0 85 yX6_lowest, Cond.methodLink RX0 89 yX6_highest, Cond.methodLink RX0 92 yX7_errorOf, Cond.methodLink RX0 96 yX6_amountOf, Cond.methodLink RX0 100 yX9_mostOf, Cond.methodLink RX0 104 yX9_isAnswer, Cond.methodLink RL 147 yX12_check, Cond.instanceMethod yX12_check, Cond.selects RX12 yX12_check yX12_check, Cond.code yX12_check cX12_check 4 (some .boolean), Cond.methodLink RX12 521 yX12_readsLong, Cond.instanceMethod yX12_readsLong, Cond.selects RX12 yX12_readsLong yX12_readsLong, Cond.code yX12_readsLong cX12_readsLong 5 (some .long), Cond.constantLong RX12 514 (1000000000000), Cond.constantLong RX12 516 (-1000000000000), Cond.methodLink RX12 524 yX12_breaks, Cond.instanceMethod yX12_breaks, Cond.selects RX12 yX12_breaks yX12_breaks]
noncomputable def wsL_law_r63 : List Cond := [Cond.code yX12_breaks cX12_breaks 2 (some .int), Cond.methodLink RX12 518 yX12_isFormatSaid, Cond.instanceMethod yX12_isFormatSaid, Cond.selects RX12 yX12_isFormatSaid yX12_isFormatSaid, Cond.code yX12_isFormatSaid cX12_isFormatSaid 3 (some .boolean), Cond.methodLink RL 148 yX11_broken, Cond.instanceMethod yX11_broken, Cond.selects RX11 yX11_broken yX11_broken, Cond.code yX11_broken cX11_broken 2 (some .int), Cond.fieldLink RX11 353 "ShortEnough$CertificateReader" "breaksAt" "I", Cond.fieldLink RX11 356 "ShortEnough$CertificateReader" "reason" "I", Cond.methodLink RL 151 yX12_broken, Cond.instanceMethod yX12_broken, Cond.selects RX12 yX12_broken yX12_broken, Cond.code yX12_broken cX12_broken 2 (some .int), Cond.methodLink RL 152 yX11_trials, Cond.instanceMethod yX11_trials, Cond.selects RX11 yX11_trials yX11_trials, Cond.code yX11_trials cX11_trials 6 (some .long), Cond.fieldLink RX11 361 "ShortEnough$Sampler" "kept" "[J", Cond.fieldLink RX11 364 "ShortEnough$Sampler" "exact" "[J", Cond.methodLink RX11 367 Lib.MathLoose.abs_long.x, Cond.methodLink RX11 357 yX8_sample, Cond.instanceMethod yX8_sample]
noncomputable def wsL_law_r64 : List Cond := [Cond.selects RX8 yX8_sample yX8_sample, Cond.code yX8_sample cX8_sample 13 (some .int), Cond.fieldLink RX8 18 "ShortEnough$Task" "numbers" "LShortEnough$Numbers;", Cond.fieldLink RX8 24 "ShortEnough$Numbers" "count" "I", Cond.fieldLink RX8 38 "ShortEnough$Numbers" "op" "[I", Cond.constantLong RX8 42 (1103515245), Cond.constantLong RX8 44 (12345), Cond.constantLong RX8 46 (2147483648), Cond.methodLink RX8 30 yX9_formatOf, Cond.methodLink RX8 34 yX9_stepOf, Cond.methodLink RX8 48 yX4_amountOf, Cond.methodLink RX8 56 yX8_whatOf, Cond.static yX8_whatOf, Cond.code yX8_whatOf cX8_whatOf 5 (some .long), Cond.methodLink RX8 64 yX4_madeOf, Cond.methodLink RL 155 yX12_trials, Cond.instanceMethod yX12_trials, Cond.selects RX12 yX12_trials yX12_trials, Cond.code yX12_trials cX12_trials 6 (some .long), Cond.constantLong RX12 545 (40), Cond.methodLink RX12 547 yX12_triesOnce, Cond.instanceMethod yX12_triesOnce, Cond.selects RX12 yX12_triesOnce yX12_triesOnce, Cond.code yX12_triesOnce cX12_triesOnce 4 none]
noncomputable def wsL_law_r65 : List Cond := [Cond.methodLink RX12 536 yX12_draw, Cond.instanceMethod yX12_draw, Cond.selects RX12 yX12_draw yX12_draw, Cond.code yX12_draw cX12_draw 5 (some .long), Cond.constantLong RX12 527 (1103515245), Cond.constantLong RX12 529 (12345), Cond.constantLong RX12 531 (2147483648), Cond.methodLink RX12 533 yX12_rounded, Cond.static yX12_rounded, Cond.code yX12_rounded cX12_rounded 4 (some .long), Cond.methodLink RX12 539 yX12_exactOf, Cond.instanceMethod yX12_exactOf, Cond.selects RX12 yX12_exactOf yX12_exactOf, Cond.code yX12_exactOf cX12_exactOf 4 (some .long), Cond.methodLink RX12 542 yX12_castOf, Cond.instanceMethod yX12_castOf, Cond.selects RX12 yX12_castOf yX12_castOf, Cond.code yX12_castOf cX12_castOf 4 (some .long), Cond.methodLink RL 156 yX11_trial, Cond.instanceMethod yX11_trial, Cond.selects RX11 yX11_trial yX11_trial, Cond.code yX11_trial cX11_trial 3 (some .long), Cond.methodLink RL 159 yX12_trial, Cond.instanceMethod yX12_trial]
noncomputable def wsL_law_r66 : List Cond := [Cond.selects RX12 yX12_trial yX12_trial, Cond.code yX12_trial cX12_trial 4 (some .long), Cond.methodLink RL 160 yX11_seed, Cond.instanceMethod yX11_seed, Cond.selects RX11 yX11_seed yX11_seed, Cond.code yX11_seed cX11_seed 2 (some .boolean), Cond.methodLink RL 163 yX12_seed, Cond.instanceMethod yX12_seed, Cond.selects RX12 yX12_seed yX12_seed, Cond.code yX12_seed cX12_seed 2 (some .boolean), Cond.methodLink RL 164 yX11_status, Cond.instanceMethod yX11_status, Cond.selects RX11 yX11_status yX11_status, Cond.code yX11_status cX11_status 2 (some .int), Cond.methodLink RL 167 yX12_status, Cond.instanceMethod yX12_status, Cond.selects RX12 yX12_status yX12_status, Cond.code yX12_status cX12_status 2 (some .int), Cond.constantLong RX12 550 (4)]
noncomputable def wsL_law : List Cond := (wsL_law_r1 ++ (wsL_law_r2 ++ (wsL_law_r3 ++ (wsL_law_r4 ++ (wsL_law_r5 ++ (wsL_law_r6 ++ (wsL_law_r7 ++ (wsL_law_r8 ++ (wsL_law_r9 ++ (wsL_law_r10 ++ (wsL_law_r11 ++ (wsL_law_r12 ++ (wsL_law_r13 ++ (wsL_law_r14 ++ (wsL_law_r15 ++ (wsL_law_r16 ++ (wsL_law_r17 ++ (wsL_law_r18 ++ (wsL_law_r19 ++ (wsL_law_r20 ++ (wsL_law_r21 ++ (wsL_law_r22 ++ (wsL_law_r23 ++ (wsL_law_r24 ++ (wsL_law_r25 ++ (wsL_law_r26 ++ (wsL_law_r27 ++ (wsL_law_r28 ++ (wsL_law_r29 ++ (wsL_law_r30 ++ (wsL_law_r31 ++ (wsL_law_r32 ++ (wsL_law_r33 ++ (wsL_law_r34 ++ (wsL_law_r35 ++ (wsL_law_r36 ++ (wsL_law_r37 ++ (wsL_law_r38 ++ (wsL_law_r39 ++ (wsL_law_r40 ++ (wsL_law_r41 ++ (wsL_law_r42 ++ (wsL_law_r43 ++ (wsL_law_r44 ++ (wsL_law_r45 ++ (wsL_law_r46 ++ (wsL_law_r47 ++ (wsL_law_r48 ++ (wsL_law_r49 ++ (wsL_law_r50 ++ (wsL_law_r51 ++ (wsL_law_r52 ++ (wsL_law_r53 ++ (wsL_law_r54 ++ (wsL_law_r55 ++ (wsL_law_r56 ++ (wsL_law_r57 ++ (wsL_law_r58 ++ (wsL_law_r59 ++ (wsL_law_r60 ++ (wsL_law_r61 ++ (wsL_law_r62 ++ (wsL_law_r63 ++ (wsL_law_r64 ++ (wsL_law_r65 ++ wsL_law_r66))))))))))))))))))))))))))))))))))))))))))))))))))))))))))))))))) ++ wsX110 ++ wsX120 ++ wsX50 ++ wsX90 ++ wsX70 ++ wsX60 ++ wsX10 ++ wsX30 ++ wsX00 ++ wsX80 ++ wsX100 ++ wsX40 ++ wsX20 ++ ([] : List Cond)
/-! small rows: comparisons as integers, the answers of the calls that have two, what a new object holds -/
noncomputable abbrev zU : Type := (Nat → Nat) × (Nat → Nat → Int32)
theorem zi_lt {x y : Int32} (h : x < y) : x.toInt < y.toInt := Int32.lt_iff_toInt_lt.mp h
theorem zi_nlt {x y : Int32} (h : ¬ x < y) : ¬ x.toInt < y.toInt := fun q => h (Int32.lt_iff_toInt_lt.mpr q)
theorem zi_le {x y : Int32} (h : x ≤ y) : x.toInt ≤ y.toInt := Int32.le_iff_toInt_le.mp h
theorem zi_nle {x y : Int32} (h : ¬ x ≤ y) : ¬ x.toInt ≤ y.toInt := fun q => h (Int32.le_iff_toInt_le.mpr q)
theorem zi_eq {x y : Int32} (h : x = y) : x.toInt = y.toInt := by rw [h]
theorem zi_ne {x y : Int32} (h : ¬ x = y) : ¬ x.toInt = y.toInt := fun q => h (Int32.toInt_inj.mp q)
theorem zl_lt {x y : Int64} (h : lg_cmp x y < 0) : x.toInt < y.toInt := Int64.lt_iff_toInt_lt.mp ((lg_cmp_lt x y).mp h)
theorem zl_nlt {x y : Int64} (h : ¬ lg_cmp x y < 0) : ¬ x.toInt < y.toInt := fun q => h ((lg_cmp_lt x y).mpr (Int64.lt_iff_toInt_lt.mpr q))
theorem zl_gt {x y : Int64} (h : 0 < lg_cmp x y) : y.toInt < x.toInt := Int64.lt_iff_toInt_lt.mp ((lg_cmp_gt x y).mp h)
theorem zl_ngt {x y : Int64} (h : ¬ 0 < lg_cmp x y) : ¬ y.toInt < x.toInt := fun q => h ((lg_cmp_gt x y).mpr (Int64.lt_iff_toInt_lt.mpr q))
theorem zl_ge {x y : Int64} (h : 0 ≤ lg_cmp x y) : y.toInt ≤ x.toInt := Int64.le_iff_toInt_le.mp ((lg_cmp_ge x y).mp h)
theorem zl_nge {x y : Int64} (h : ¬ 0 ≤ lg_cmp x y) : ¬ y.toInt ≤ x.toInt := fun q => h ((lg_cmp_ge x y).mpr (Int64.le_iff_toInt_le.mpr q))
theorem zl_le {x y : Int64} (h : lg_cmp x y ≤ 0) : x.toInt ≤ y.toInt := Int64.le_iff_toInt_le.mp ((lg_cmp_le x y).mp h)
theorem zl_nle {x y : Int64} (h : ¬ lg_cmp x y ≤ 0) : ¬ x.toInt ≤ y.toInt := fun q => h ((lg_cmp_le x y).mpr (Int64.le_iff_toInt_le.mpr q))
theorem zl_eq {x y : Int64} (h : lg_cmp x y = 0) : x.toInt = y.toInt := by rw [(lg_cmp_eq x y).mp h]
theorem zl_ne {x y : Int64} (h : ¬ lg_cmp x y = 0) : ¬ x.toInt = y.toInt := fun q => h ((lg_cmp_eq x y).mpr (Int64.toInt_inj.mp q))
noncomputable def zs_end (n : Int32) : Int32 := if n.toInt = 0 then 1 else 0
theorem zs_end_0 {n : Int32} (h : ¬ n.toInt = 0) : 0 = zs_end n := by rw [zs_end, if_neg h]
theorem zs_end_1 {n : Int32} (h : n.toInt = 0) : 1 = zs_end n := by rw [zs_end, if_pos h]
noncomputable def zs_fault (n : Int32) : Int32 := if n.toInt = 0 then 0 else -1
theorem zs_fault_0 {n : Int32} (h : n.toInt = 0) : 0 = zs_fault n := by rw [zs_fault, if_pos h]
theorem zs_fault_m1 {n : Int32} (h : ¬ n.toInt = 0) : -1 = zs_fault n := by rw [zs_fault, if_neg h]
noncomputable def zs_has (n : Int32) : Int32 := if n.toInt = 7 then 1 else if 0 ≤ n.toInt ∧ n.toInt ≤ 6 then 0 else -1
theorem zs_has_1 {n : Int32} (h : n.toInt = 7) : 1 = zs_has n := by rw [zs_has, if_pos h]
theorem zs_has_0 {n : Int32} (h : 0 ≤ n.toInt ∧ n.toInt ≤ 6) : 0 = zs_has n := by rw [zs_has, if_neg (by omega), if_pos h]
theorem zs_has_m1 {n : Int32} (h : n.toInt < 0 ∨ 7 < n.toInt) : -1 = zs_has n := by rw [zs_has, if_neg (by omega), if_neg (by omega)]
noncomputable def zs_seed (n : Int32) : Int32 := if n.toInt < 0 then 0 else 1
theorem zs_seed_0 {n : Int32} (h : n.toInt < 0) : 0 = zs_seed n := by rw [zs_seed, if_pos h]
theorem zs_seed_1 {n : Int32} (h : ¬ n.toInt < 0) : 1 = zs_seed n := by rw [zs_seed, if_neg h]
noncomputable def zs_status (n : Int32) : Int32 := if 0 ≤ n.toInt ∧ n.toInt < 5 then 0 else -1
theorem zs_status_0 {n : Int32} (h : 0 ≤ n.toInt ∧ n.toInt < 5) : 0 = zs_status n := by rw [zs_status, if_pos h]
theorem zs_status_m1 {n : Int32} (h : ¬ (0 ≤ n.toInt ∧ n.toInt < 5)) : -1 = zs_status n := by rw [zs_status, if_neg h]

theorem zd_X0 : ∀ j, j < 5 → defaultValue (tyX0 j) = vp_V [.null, .null, .null, .int 0, .int 0] j := by decide +kernel
theorem zd_X1 : ∀ j, j < 14 → defaultValue (tyX1 j) = vp_V [.null, .null, .int 0, .int 0, .null, .null, .int 0, .int 0, .int 0, .int 0, .int 0, .null, .null, .null] j := by decide +kernel
theorem zd_X2 : ∀ j, j < 6 → defaultValue (tyX2 j) = vp_V [.int 0, .int 0, .int 0, .null, .null, .null] j := by decide +kernel
theorem zd_X3 : ∀ j, j < 16 → defaultValue (tyX3 j) = vp_V [.null, .null, .int 0, .int 0, .null, .null, .null, .null, .int 0, .null, .int 0, .int 0, .int 0, .int 0, .int 0, .int 0] j := by decide +kernel
theorem zd_X4 : ∀ j, j < 10 → defaultValue (tyX4 j) = vp_V [.int 0, .int 0, .null, .null, .null, .null, .null, .null, .null, .null] j := by decide +kernel
theorem zd_X5 : ∀ j, j < 4 → defaultValue (tyX5 j) = vp_V [.null, .int 0, .int 0, .int 0] j := by decide +kernel
theorem zd_X6 : ∀ j, j < 3 → defaultValue (tyX6 j) = vp_V [.null, .null, .null] j := by decide +kernel
theorem zd_X7 : ∀ j, j < 3 → defaultValue (tyX7 j) = vp_V [.null, .int 0, .int 0] j := by decide +kernel
theorem zd_X8 : ∀ j, j < 2 → defaultValue (tyX8 j) = vp_V [.null, .null] j := by decide +kernel
theorem zd_X9 : ∀ j, j < 9 → defaultValue (tyX9 j) = vp_V [.int 0, .null, .null, .null, .null, .int 0, .null, .null, .null] j := by decide +kernel
theorem zd_X10 : ∀ j, j < 8 → defaultValue (tyX10 j) = vp_V [.null, .null, .int 0, .int 0, .int 0, .int 0, .int 0, .int 0] j := by decide +kernel
theorem zd_X11 : ∀ j, j < 16 → defaultValue (tyX11 j) = vp_V [.null, .int 0, .null, .null, .null, .null, .null, .null, .null, .null, .null, .null, .null, .null, .null, .int 0] j := by decide +kernel
theorem zd_X12 : ∀ j, j < 67 → defaultValue (tyX12 j) = vp_V [.null, .int 0, .null, .int 0, .int 0, .int 0, .int 0, .int 0, .int 0, .int 0, .null, .int 0, .null, .null, .null, .null, .null, .null, .null, .null, .null, .null, .null, .null, .null, .null, .null, .null, .long 0, .null, .int 0, .null, .null, .int 0, .long 0, .null, .null, .null, .int 0, .null, .null, .int 0, .int 0, .null, .int 0, .int 0, .null, .null, .null, .null, .int 0, .int 0, .int 0, .int 0, .null, .null, .null, .int 0, .int 0, .int 0, .null, .null, .null, .null, .int 0, .null, .null] j := by decide +kernel

/-! what the Statement gives of the one text: its place, its bytes, the statics that its methods read -/
noncomputable def zBY : List Int32 := [102, 111, 114, 109, 97, 116, 32, 115, 116, 101, 112, 32, 32, 32, 109, 111, 115, 116, 32, 32, 32, 99, 111, 115, 116, 32, 32, 32, 99, 97, 115, 116, 32, 32, 32, 105, 110, 112, 117, 116, 32, 32, 108, 101, 116, 32, 32, 32, 32, 109, 105, 110, 32, 32, 32, 32, 109, 97, 120, 32, 32, 32, 32, 102, 105, 120, 101, 100, 32, 32, 103, 114, 111, 117, 112, 32, 32, 97, 110, 115, 119, 101, 114, 32, 119, 105, 116, 104, 105, 110, 32]
noncomputable def zTX : String := "format step   most   cost   cast   input  let    min    max    fixed  group  answer within "
noncomputable def zF (adK adV : Nat → Nat) (A : Nat → Prop) (U : State) (H : Heap) : Prop := vk_R RX10 19 zTX (adK 0) U ∧ vk_S 1 [91] [zBY] adK adV A U H ∧ va_Z "java/lang/String" "COMPACT_STRINGS" "Z" (.int 1) A U H ∧ va_Zq "jdk/internal/util/Preconditions" "SIOOBE_FORMATTER" "Ljava/util/function/BiFunction;" A U H
theorem zq_moved {C n d : String} {A : Nat → Prop} {u U : State} {H : Heap} (hvm : u.vm.Alike U.vm) (h : va_Zq C n d A u H) : va_Zq C n d A U H := h.elim (fun h => Or.inl (h.moved hvm)) (fun ⟨t, h⟩ => Or.inr ⟨t, h.moved hvm⟩)
theorem zq_kept {C n d : String} {A : Nat → Prop} {U : State} {H H1 : Heap} (h : va_Zq C n d A U H) (hq : ∀ a : Nat, a < H.size → ¬ A a → H1[a]? = H[a]?) : va_Zq C n d A U H1 := h.elim (fun h => Or.inl (h.kept hq)) (fun ⟨t, h⟩ => Or.inr ⟨t, h.kept hq⟩)
theorem zq_narrow {C n d : String} {A B : Nat → Prop} {U : State} {H : Heap} (h : va_Zq C n d A U H) (hAB : ∀ q, B q → A q) : va_Zq C n d B U H := h.elim (fun h => Or.inl (h.narrow hAB)) (fun ⟨t, h⟩ => Or.inr ⟨t, h.narrow hAB⟩)
theorem zF_blind {adK adV : Nat → Nat} {B : Nat → Prop} {U : State} {g : JFrame} {mk : MethodId} {a : Array Value} (h : zF adK adV B U U.heap) : zF adK adV B (U.calling g mk a) (U.calling g mk a).heap := ⟨vk_R.same rfl h.1, vk_S.moved (u := U) (U := U.calling g mk a) (Vm.Alike.refl U.vm) h.2.1, va_Z.moved (u := U) (U := U.calling g mk a) (Vm.Alike.refl U.vm) h.2.2.1, zq_moved (u := U) (U := U.calling g mk a) (Vm.Alike.refl U.vm) h.2.2.2⟩
theorem zF_to {adK adV : Nat → Nat} {A B : Nat → Prop} {s U : State} {H : Heap} {locs : List Loc} (h : zF adK adV A s s.heap) (hS : va_S A s.heap H locs) (hB : ∀ q, B q → A q) (hW : s.WarmedH U.vm) (hU : U.heap = H) : zF adK adV B U U.heap := by
  rw [hU]
  exact ⟨vk_R.warm hW h.1, vk_S.moved hW.alike (vk_S.narrow (vk_S.kept h.2.1 hS.2.1) hB), va_Z.moved hW.alike (va_Z.narrow (va_Z.kept h.2.2.1 hS.2.1) hB), zq_moved hW.alike (zq_narrow (zq_kept h.2.2.2 hS.2.1) hB)⟩
theorem zn_c2 {x y : Int32} (h : (x.toUInt32 % 65536).toInt32 = y) : narrow .char (.int y) = .int y := by
  subst h
  show Value.int _ = Value.int _
  congr 1
  apply Int32.toBitVec_inj.mp
  apply BitVec.eq_of_toNat_eq
  simp
theorem z_inc {x y : Int32} (e : y = x + 1) (h : 0 ≤ x.toInt ∧ x.toInt < 1000) : y.toInt = x.toInt + 1 := by
  have k1 : (1 : Int32).toInt = 1 := by decide +kernel
  rw [e, Int32.toInt_add, k1, Int.bmod_def]
  split <;> omega
theorem z_at {x1 x2 y z : Int32} (ey : y = x1 * 7) (ez : z = y + x2) (h1 : 0 ≤ x1.toInt ∧ x1.toInt < 13) (h2 : 0 ≤ x2.toInt ∧ x2.toInt < 7) : z.toInt = x1.toInt * 7 + x2.toInt := by
  have k7 : (7 : Int32).toInt = 7 := by decide +kernel
  have hy : y.toInt = x1.toInt * 7 := by
    rw [ey, Int32.toInt_mul, k7, Int.bmod_def]
    split <;> omega
  rw [ez, Int32.toInt_add, hy, Int.bmod_def]
  split <;> omega

/-! the letters of the one text, and a name of six of them as one number -/
noncomputable def zChN (k : Nat) : Int32 := ((((([zBY] : List (List Int32)).getD 0 []).getD k 0) &&& 255).toUInt32 % 65536).toInt32
noncomputable def zChr (p : Int32) : Int32 := zChN p.toNatClampNeg
theorem zChr_of {p x y z : Int32} (h1 : x = (([zBY] : List (List Int32)).getD 0 []).getD p.toNatClampNeg 0) (h2 : y = x &&& 255) (h3 : (y.toUInt32 % 65536).toInt32 = z) : z = zChr p := by
  subst h1
  subst h2
  exact h3.symm
noncomputable def zOr (a r : Int32) : Int32 := (a <<< ((5 : Int32) &&& 31)) ||| (if r = 32 then 0 else r - 97 + 1)
theorem zOr_ne {a r : Int32} (h : ¬ r = 32) : (a <<< ((5 : Int32) &&& 31)) ||| (r - 97 + 1) = zOr a r := by
  unfold zOr
  rw [if_neg h]
theorem zOr_eq {a r : Int32} (h : r = 32) : (a <<< ((5 : Int32) &&& 31)) ||| 0 = zOr a r := by
  unfold zOr
  rw [if_pos h]
noncomputable def zOw (w : Nat) : Nat → Int32
  | 0 => 0
  | j + 1 => zOr (zOw w j) (zChN (w * 7 + j))
noncomputable def zOwnI (x1 x2 : Int32) (f : Nat → Int32) : Prop := ∀ w : Nat, f w = if w < x1.toNatClampNeg then zOw w 6 else if w = x1.toNatClampNeg then zOw w x2.toNatClampNeg else 0
noncomputable def zOwnO (x1 : Int32) (f : Nat → Int32) : Prop := ∀ w : Nat, f w = if w < x1.toNatClampNeg then zOw w 6 else 0
theorem zOwn_st {x1 x2 x3 y r v : Int32} {f g : Nat → Int32} (h : zOwnI x1 x2 f) (h3 : x3.toInt = x1.toInt * 7 + x2.toInt) (hr : r = zChr x3) (h1 : 0 ≤ x1.toInt ∧ x1.toInt < 13) (h2 : 0 ≤ x2.toInt) (hy : y.toInt = x2.toInt + 1) (eg : g = upd f x1.toNatClampNeg v) (hv : v = zOr (f x1.toNatClampNeg) r) : zOwnI x1 y g := by
  have k1 : x3.toNatClampNeg = x1.toNatClampNeg * 7 + x2.toNatClampNeg := by
    show x3.toInt.toNat = x1.toInt.toNat * 7 + x2.toInt.toNat
    omega
  have k2 : y.toNatClampNeg = x2.toNatClampNeg + 1 := by
    show y.toInt.toNat = x2.toInt.toNat + 1
    omega
  have k3 := h x1.toNatClampNeg
  rw [if_neg (Nat.lt_irrefl _), if_pos rfl] at k3
  intro w
  rw [eg, k2]
  show (if w = x1.toNatClampNeg then v else f w) = _
  by_cases c : w = x1.toNatClampNeg
  · rw [if_pos c, hv, k3, hr, c, if_neg (Nat.lt_irrefl _), if_pos rfl]
    show zOr _ (zChN x3.toNatClampNeg) = zOr (zOw x1.toNatClampNeg x2.toNatClampNeg) (zChN (x1.toNatClampNeg * 7 + x2.toNatClampNeg))
    rw [k1]
  · rw [if_neg c, h w, if_neg c, if_neg c]
theorem zOwnI_6 {x1 x2 : Int32} {f : Nat → Int32} (h2 : x2.toInt = 6) (h : zOwnI x1 x2 f) : zOwnI x1 6 f := by
  have e : x2 = 6 := Int32.toInt_inj.mp (by rw [h2]; decide +kernel)
  subst e
  exact h
theorem zOwnI_0 {x1 : Int32} {f : Nat → Int32} (h : zOwnO x1 f) : zOwnI x1 0 f := by
  intro w
  rw [h w]
  have e : (0 : Int32).toNatClampNeg = 0 := by decide +kernel
  rw [e]
  by_cases c : w < x1.toNatClampNeg
  · rw [if_pos c, if_pos c]
  · rw [if_neg c, if_neg c]
    by_cases d : w = x1.toNatClampNeg
    · rw [if_pos d]; rfl
    · rw [if_neg d]
theorem zOwnO_n {x1 y : Int32} {f : Nat → Int32} (h : zOwnI x1 6 f) (h1 : 0 ≤ x1.toInt) (hy : y.toInt = x1.toInt + 1) : zOwnO y f := by
  have k : y.toNatClampNeg = x1.toNatClampNeg + 1 := by
    show y.toInt.toNat = x1.toInt.toNat + 1
    omega
  have e : (6 : Int32).toNatClampNeg = 6 := by decide +kernel
  intro w
  rw [h w, k, e]
  by_cases c : w < x1.toNatClampNeg
  · rw [if_pos c, if_pos (by omega)]
  · rw [if_neg c]
    by_cases d : w = x1.toNatClampNeg
    · rw [if_pos d, if_pos (by omega)]
    · rw [if_neg d, if_neg (by omega)]
theorem zOwnO_0 : zOwnO 0 (fun _ => 0) := by
  intro w
  have e : (0 : Int32).toNatClampNeg = 0 := by decide +kernel
  rw [e, if_neg (Nat.not_lt_zero _)]
theorem zOwnO_f {x1 : Int32} {f : Nat → Int32} (h1 : x1.toInt = 13) (h : zOwnO x1 f) (w : Nat) (hw : w < 13) : f w = zOw w 6 := by
  have k : x1.toNatClampNeg = 13 := by
    show x1.toInt.toNat = 13
    omega
  rw [h w, k, if_pos hw]
theorem zOwT_eq : ∀ w : Nat, w < 13 → zOw w 6 = zOwT w := by decide +kernel
set_option maxRecDepth 100000 in
theorem ggJ0_length_8abf5_J0_coder_7d493 : GoodIn wsJ0_length_8abf5 wsJ0_coder_7d493 := goodIn_r _ [6, 7, 8] rfl (by decide +kernel)
set_option maxRecDepth 100000 in
theorem gJ0_length_8abf5_J0_coder_7d493 : GoodIn wsJ0_length_8abf5 (wsV RJ0 335 RJ0 yJ0_coder_7d493 wsJ0_coder_7d493) := goodIn_app (goodIn_r _ [2, 3, 4, 5] rfl (by decide +kernel)) ggJ0_length_8abf5_J0_coder_7d493
set_option maxRecDepth 100000 in
theorem ggJ0_charAt_5068e_J0_isLatin1_aae02 : GoodIn wsJ0_charAt_5068e wsJ0_isLatin1_aae02 := goodIn_r _ [6, 7, 8] rfl (by decide +kernel)
set_option maxRecDepth 100000 in
theorem gJ0_charAt_5068e_J0_isLatin1_aae02 : GoodIn wsJ0_charAt_5068e (wsV RJ0 492 RJ0 yJ0_isLatin1_aae02 wsJ0_isLatin1_aae02) := goodIn_app (goodIn_r _ [2, 3, 4, 5] rfl (by decide +kernel)) ggJ0_charAt_5068e_J0_isLatin1_aae02
set_option maxRecDepth 100000 in
theorem ggJ0_charAt_5068e_J1_charAt_3b067 : GoodIn wsJ0_charAt_5068e wsJ1_charAt_3b067 := goodIn_r _ [12, 13, 14, 5, 15, 16, 17, 18, 19, 20] rfl (by decide +kernel)
set_option maxRecDepth 100000 in
theorem gJ0_charAt_5068e_J1_charAt_3b067 : GoodIn wsJ0_charAt_5068e (va_wsS RJ0 495 yJ1_charAt_3b067 wsJ1_charAt_3b067) := goodIn_app (goodIn_r _ [9, 10, 11] rfl (by decide +kernel)) ggJ0_charAt_5068e_J1_charAt_3b067
set_option maxRecDepth 100000 in
theorem ggJ0_checkIndex_df160_J3_checkIndex_8e157 : GoodIn wsJ0_checkIndex_df160 wsJ3_checkIndex_8e157 := goodIn_r _ [5] rfl (by decide +kernel)
set_option maxRecDepth 100000 in
theorem gJ0_checkIndex_df160_J3_checkIndex_8e157 : GoodIn wsJ0_checkIndex_df160 (va_wsS RJ0 1059 yJ3_checkIndex_8e157 wsJ3_checkIndex_8e157) := goodIn_app (goodIn_r _ [2, 3, 4] rfl (by decide +kernel)) ggJ0_checkIndex_df160_J3_checkIndex_8e157
set_option maxRecDepth 100000 in
theorem ggJ1_charAt_3b067_J0_checkIndex_df160 : GoodIn wsJ1_charAt_3b067 wsJ0_checkIndex_df160 := goodIn_r _ [4, 5, 6, 7, 8, 9] rfl (by decide +kernel)
set_option maxRecDepth 100000 in
theorem gJ1_charAt_3b067_J0_checkIndex_df160 : GoodIn wsJ1_charAt_3b067 (va_wsS RJ1 9 yJ0_checkIndex_df160 wsJ0_checkIndex_df160) := goodIn_app (goodIn_r _ [1, 2, 3] rfl (by decide +kernel)) ggJ1_charAt_3b067_J0_checkIndex_df160
theorem dX12_init_0 : decode cX12_init 0 = .ok (.aload_n 0, 1) := zDc_42 (by decide +kernel)
theorem dX12_init_1 : decode cX12_init 1 = .ok (.invokespecial 1, 3) := zDc_183 (by decide +kernel)
theorem dX12_init_4 : decode cX12_init 4 = .ok (.aload_n 0, 1) := zDc_42 (by decide +kernel)
theorem dX12_init_5 : decode cX12_init 5 = .ok (.sipush 1200, 3) := zDc_17 (by decide +kernel)
theorem dX12_init_8 : decode cX12_init 8 = .ok (.newarray .int, 2) := zDc_188_10 (by decide +kernel)
theorem dX12_init_10 : decode cX12_init 10 = .ok (.putfield 7, 3) := zDc_181 (by decide +kernel)
theorem dX12_init_13 : decode cX12_init 13 = .ok (.aload_n 0, 1) := zDc_42 (by decide +kernel)
theorem dX12_init_14 : decode cX12_init 14 = .ok (.iconst 0, 1) := zDc_3 (by decide +kernel)
theorem dX12_init_15 : decode cX12_init 15 = .ok (.putfield 13, 3) := zDc_181 (by decide +kernel)
theorem dX12_init_18 : decode cX12_init 18 = .ok (.aload_n 0, 1) := zDc_42 (by decide +kernel)
theorem dX12_init_19 : decode cX12_init 19 = .ok (.iconst 5, 1) := zDc_8 (by decide +kernel)
theorem dX12_init_20 : decode cX12_init 20 = .ok (.newarray .int, 2) := zDc_188_10 (by decide +kernel)
theorem dX12_init_22 : decode cX12_init 22 = .ok (.putfield 17, 3) := zDc_181 (by decide +kernel)
theorem dX12_init_25 : decode cX12_init 25 = .ok (.aload_n 0, 1) := zDc_42 (by decide +kernel)
theorem dX12_init_26 : decode cX12_init 26 = .ok (.iconst 0, 1) := zDc_3 (by decide +kernel)
theorem dX12_init_27 : decode cX12_init 27 = .ok (.putfield 20, 3) := zDc_181 (by decide +kernel)
theorem dX12_init_30 : decode cX12_init 30 = .ok (.aload_n 0, 1) := zDc_42 (by decide +kernel)
theorem dX12_init_31 : decode cX12_init 31 = .ok (.iconst (-1), 1) := zDc_2 (by decide +kernel)
theorem dX12_init_32 : decode cX12_init 32 = .ok (.putfield 23, 3) := zDc_181 (by decide +kernel)
theorem dX12_init_35 : decode cX12_init 35 = .ok (.aload_n 0, 1) := zDc_42 (by decide +kernel)
theorem dX12_init_36 : decode cX12_init 36 = .ok (.iconst 0, 1) := zDc_3 (by decide +kernel)
theorem dX12_init_37 : decode cX12_init 37 = .ok (.putfield 26, 3) := zDc_181 (by decide +kernel)
theorem dX12_init_40 : decode cX12_init 40 = .ok (.aload_n 0, 1) := zDc_42 (by decide +kernel)
theorem dX12_init_41 : decode cX12_init 41 = .ok (.iconst 0, 1) := zDc_3 (by decide +kernel)
theorem dX12_init_42 : decode cX12_init 42 = .ok (.putfield 29, 3) := zDc_181 (by decide +kernel)
theorem dX12_init_45 : decode cX12_init 45 = .ok (.aload_n 0, 1) := zDc_42 (by decide +kernel)
theorem dX12_init_46 : decode cX12_init 46 = .ok (.iconst 0, 1) := zDc_3 (by decide +kernel)
theorem dX12_init_47 : decode cX12_init 47 = .ok (.putfield 32, 3) := zDc_181 (by decide +kernel)
theorem dX12_init_50 : decode cX12_init 50 = .ok (.aload_n 0, 1) := zDc_42 (by decide +kernel)
theorem dX12_init_51 : decode cX12_init 51 = .ok (.iconst 0, 1) := zDc_3 (by decide +kernel)
theorem dX12_init_52 : decode cX12_init 52 = .ok (.putfield 35, 3) := zDc_181 (by decide +kernel)
theorem dX12_init_55 : decode cX12_init 55 = .ok (.aload_n 0, 1) := zDc_42 (by decide +kernel)
theorem dX12_init_56 : decode cX12_init 56 = .ok (.iconst (-1), 1) := zDc_2 (by decide +kernel)
theorem dX12_init_57 : decode cX12_init 57 = .ok (.putfield 38, 3) := zDc_181 (by decide +kernel)
theorem dX12_init_60 : decode cX12_init 60 = .ok (.aload_n 0, 1) := zDc_42 (by decide +kernel)
theorem dX12_init_61 : decode cX12_init 61 = .ok (.bipush 71, 2) := zDc_16 (by decide +kernel)
theorem dX12_init_63 : decode cX12_init 63 = .ok (.newarray .int, 2) := zDc_188_10 (by decide +kernel)
theorem dX12_init_65 : decode cX12_init 65 = .ok (.dup, 1) := zDc_89 (by decide +kernel)
theorem dX12_init_66 : decode cX12_init 66 = .ok (.iconst 0, 1) := zDc_3 (by decide +kernel)
theorem dX12_init_67 : decode cX12_init 67 = .ok (.bipush 6, 2) := zDc_16 (by decide +kernel)
theorem dX12_init_69 : decode cX12_init 69 = .ok (.iastore, 1) := zDc_79 (by decide +kernel)
theorem dX12_init_70 : decode cX12_init 70 = .ok (.dup, 1) := zDc_89 (by decide +kernel)
theorem dX12_init_71 : decode cX12_init 71 = .ok (.iconst 1, 1) := zDc_4 (by decide +kernel)
theorem dX12_init_72 : decode cX12_init 72 = .ok (.bipush 15, 2) := zDc_16 (by decide +kernel)
theorem dX12_init_74 : decode cX12_init 74 = .ok (.iastore, 1) := zDc_79 (by decide +kernel)
theorem dX12_init_75 : decode cX12_init 75 = .ok (.dup, 1) := zDc_89 (by decide +kernel)
theorem dX12_init_76 : decode cX12_init 76 = .ok (.iconst 2, 1) := zDc_5 (by decide +kernel)
theorem dX12_init_77 : decode cX12_init 77 = .ok (.bipush 18, 2) := zDc_16 (by decide +kernel)
theorem dX12_init_79 : decode cX12_init 79 = .ok (.iastore, 1) := zDc_79 (by decide +kernel)
theorem dX12_init_80 : decode cX12_init 80 = .ok (.dup, 1) := zDc_89 (by decide +kernel)
theorem dX12_init_81 : decode cX12_init 81 = .ok (.iconst 3, 1) := zDc_6 (by decide +kernel)
theorem dX12_init_82 : decode cX12_init 82 = .ok (.bipush 13, 2) := zDc_16 (by decide +kernel)
theorem dX12_init_84 : decode cX12_init 84 = .ok (.iastore, 1) := zDc_79 (by decide +kernel)
theorem dX12_init_85 : decode cX12_init 85 = .ok (.dup, 1) := zDc_89 (by decide +kernel)
theorem dX12_init_86 : decode cX12_init 86 = .ok (.iconst 4, 1) := zDc_7 (by decide +kernel)
theorem dX12_init_87 : decode cX12_init 87 = .ok (.iconst 1, 1) := zDc_4 (by decide +kernel)
theorem dX12_init_88 : decode cX12_init 88 = .ok (.iastore, 1) := zDc_79 (by decide +kernel)
theorem dX12_init_89 : decode cX12_init 89 = .ok (.dup, 1) := zDc_89 (by decide +kernel)
theorem dX12_init_90 : decode cX12_init 90 = .ok (.iconst 5, 1) := zDc_8 (by decide +kernel)
theorem dX12_init_91 : decode cX12_init 91 = .ok (.bipush 20, 2) := zDc_16 (by decide +kernel)
theorem dX12_init_93 : decode cX12_init 93 = .ok (.iastore, 1) := zDc_79 (by decide +kernel)
theorem dX12_init_94 : decode cX12_init 94 = .ok (.dup, 1) := zDc_89 (by decide +kernel)
theorem dX12_init_95 : decode cX12_init 95 = .ok (.bipush 6, 2) := zDc_16 (by decide +kernel)
theorem dX12_init_97 : decode cX12_init 97 = .ok (.iconst 0, 1) := zDc_3 (by decide +kernel)
theorem dX12_init_98 : decode cX12_init 98 = .ok (.iastore, 1) := zDc_79 (by decide +kernel)
theorem dX12_init_99 : decode cX12_init 99 = .ok (.dup, 1) := zDc_89 (by decide +kernel)
theorem dX12_init_100 : decode cX12_init 100 = .ok (.bipush 7, 2) := zDc_16 (by decide +kernel)
theorem dX12_init_102 : decode cX12_init 102 = .ok (.bipush 19, 2) := zDc_16 (by decide +kernel)
theorem dX12_init_104 : decode cX12_init 104 = .ok (.iastore, 1) := zDc_79 (by decide +kernel)
theorem dX12_init_105 : decode cX12_init 105 = .ok (.dup, 1) := zDc_89 (by decide +kernel)
theorem dX12_init_106 : decode cX12_init 106 = .ok (.bipush 8, 2) := zDc_16 (by decide +kernel)
theorem dX12_init_108 : decode cX12_init 108 = .ok (.bipush 20, 2) := zDc_16 (by decide +kernel)
theorem dX12_init_110 : decode cX12_init 110 = .ok (.iastore, 1) := zDc_79 (by decide +kernel)
theorem dX12_init_111 : decode cX12_init 111 = .ok (.dup, 1) := zDc_89 (by decide +kernel)
theorem dX12_init_112 : decode cX12_init 112 = .ok (.bipush 9, 2) := zDc_16 (by decide +kernel)
theorem dX12_init_114 : decode cX12_init 114 = .ok (.iconst 5, 1) := zDc_8 (by decide +kernel)
theorem dX12_init_115 : decode cX12_init 115 = .ok (.iastore, 1) := zDc_79 (by decide +kernel)
theorem dX12_init_116 : decode cX12_init 116 = .ok (.dup, 1) := zDc_89 (by decide +kernel)
theorem dX12_init_117 : decode cX12_init 117 = .ok (.bipush 10, 2) := zDc_16 (by decide +kernel)
theorem dX12_init_119 : decode cX12_init 119 = .ok (.bipush 16, 2) := zDc_16 (by decide +kernel)
theorem dX12_init_121 : decode cX12_init 121 = .ok (.iastore, 1) := zDc_79 (by decide +kernel)
theorem dX12_init_122 : decode cX12_init 122 = .ok (.dup, 1) := zDc_89 (by decide +kernel)
theorem dX12_init_123 : decode cX12_init 123 = .ok (.bipush 11, 2) := zDc_16 (by decide +kernel)
theorem dX12_init_125 : decode cX12_init 125 = .ok (.iconst 0, 1) := zDc_3 (by decide +kernel)
theorem dX12_init_126 : decode cX12_init 126 = .ok (.iastore, 1) := zDc_79 (by decide +kernel)
theorem dX12_init_127 : decode cX12_init 127 = .ok (.dup, 1) := zDc_89 (by decide +kernel)
theorem dX12_init_128 : decode cX12_init 128 = .ok (.bipush 12, 2) := zDc_16 (by decide +kernel)
theorem dX12_init_130 : decode cX12_init 130 = .ok (.bipush 13, 2) := zDc_16 (by decide +kernel)
theorem dX12_init_132 : decode cX12_init 132 = .ok (.iastore, 1) := zDc_79 (by decide +kernel)
theorem dX12_init_133 : decode cX12_init 133 = .ok (.dup, 1) := zDc_89 (by decide +kernel)
theorem dX12_init_134 : decode cX12_init 134 = .ok (.bipush 13, 2) := zDc_16 (by decide +kernel)
theorem dX12_init_136 : decode cX12_init 136 = .ok (.bipush 15, 2) := zDc_16 (by decide +kernel)
theorem dX12_init_138 : decode cX12_init 138 = .ok (.iastore, 1) := zDc_79 (by decide +kernel)
theorem dX12_init_139 : decode cX12_init 139 = .ok (.dup, 1) := zDc_89 (by decide +kernel)
theorem dX12_init_140 : decode cX12_init 140 = .ok (.bipush 14, 2) := zDc_16 (by decide +kernel)
theorem dX12_init_142 : decode cX12_init 142 = .ok (.bipush 19, 2) := zDc_16 (by decide +kernel)
theorem dX12_init_144 : decode cX12_init 144 = .ok (.iastore, 1) := zDc_79 (by decide +kernel)
theorem dX12_init_145 : decode cX12_init 145 = .ok (.dup, 1) := zDc_89 (by decide +kernel)
theorem dX12_init_146 : decode cX12_init 146 = .ok (.bipush 15, 2) := zDc_16 (by decide +kernel)
theorem dX12_init_148 : decode cX12_init 148 = .ok (.bipush 20, 2) := zDc_16 (by decide +kernel)
theorem dX12_init_150 : decode cX12_init 150 = .ok (.iastore, 1) := zDc_79 (by decide +kernel)
theorem dX12_init_151 : decode cX12_init 151 = .ok (.dup, 1) := zDc_89 (by decide +kernel)
theorem dX12_init_152 : decode cX12_init 152 = .ok (.bipush 16, 2) := zDc_16 (by decide +kernel)
theorem dX12_init_154 : decode cX12_init 154 = .ok (.iconst 0, 1) := zDc_3 (by decide +kernel)
theorem dX12_init_155 : decode cX12_init 155 = .ok (.iastore, 1) := zDc_79 (by decide +kernel)
theorem dX12_init_156 : decode cX12_init 156 = .ok (.dup, 1) := zDc_89 (by decide +kernel)
theorem dX12_init_157 : decode cX12_init 157 = .ok (.bipush 17, 2) := zDc_16 (by decide +kernel)
theorem dX12_init_159 : decode cX12_init 159 = .ok (.iconst 3, 1) := zDc_6 (by decide +kernel)
theorem dX12_init_160 : decode cX12_init 160 = .ok (.iastore, 1) := zDc_79 (by decide +kernel)
theorem dX12_init_161 : decode cX12_init 161 = .ok (.dup, 1) := zDc_89 (by decide +kernel)
theorem dX12_init_162 : decode cX12_init 162 = .ok (.bipush 18, 2) := zDc_16 (by decide +kernel)
theorem dX12_init_164 : decode cX12_init 164 = .ok (.bipush 15, 2) := zDc_16 (by decide +kernel)
theorem dX12_init_166 : decode cX12_init 166 = .ok (.iastore, 1) := zDc_79 (by decide +kernel)
theorem dX12_init_167 : decode cX12_init 167 = .ok (.dup, 1) := zDc_89 (by decide +kernel)
theorem dX12_init_168 : decode cX12_init 168 = .ok (.bipush 19, 2) := zDc_16 (by decide +kernel)
theorem dX12_init_170 : decode cX12_init 170 = .ok (.bipush 19, 2) := zDc_16 (by decide +kernel)
theorem dX12_init_172 : decode cX12_init 172 = .ok (.iastore, 1) := zDc_79 (by decide +kernel)
theorem dX12_init_173 : decode cX12_init 173 = .ok (.dup, 1) := zDc_89 (by decide +kernel)
theorem dX12_init_174 : decode cX12_init 174 = .ok (.bipush 20, 2) := zDc_16 (by decide +kernel)
theorem dX12_init_176 : decode cX12_init 176 = .ok (.bipush 20, 2) := zDc_16 (by decide +kernel)
theorem dX12_init_178 : decode cX12_init 178 = .ok (.iastore, 1) := zDc_79 (by decide +kernel)
theorem dX12_init_179 : decode cX12_init 179 = .ok (.dup, 1) := zDc_89 (by decide +kernel)
theorem dX12_init_180 : decode cX12_init 180 = .ok (.bipush 21, 2) := zDc_16 (by decide +kernel)
theorem dX12_init_182 : decode cX12_init 182 = .ok (.iconst 0, 1) := zDc_3 (by decide +kernel)
theorem dX12_init_183 : decode cX12_init 183 = .ok (.iastore, 1) := zDc_79 (by decide +kernel)
theorem dX12_init_184 : decode cX12_init 184 = .ok (.dup, 1) := zDc_89 (by decide +kernel)
theorem dX12_init_185 : decode cX12_init 185 = .ok (.bipush 22, 2) := zDc_16 (by decide +kernel)
theorem dX12_init_187 : decode cX12_init 187 = .ok (.iconst 3, 1) := zDc_6 (by decide +kernel)
theorem dX12_init_188 : decode cX12_init 188 = .ok (.iastore, 1) := zDc_79 (by decide +kernel)
theorem dX12_init_189 : decode cX12_init 189 = .ok (.dup, 1) := zDc_89 (by decide +kernel)
theorem dX12_init_190 : decode cX12_init 190 = .ok (.bipush 23, 2) := zDc_16 (by decide +kernel)
theorem dX12_init_192 : decode cX12_init 192 = .ok (.iconst 1, 1) := zDc_4 (by decide +kernel)
theorem dX12_init_193 : decode cX12_init 193 = .ok (.iastore, 1) := zDc_79 (by decide +kernel)
theorem dX12_init_194 : decode cX12_init 194 = .ok (.dup, 1) := zDc_89 (by decide +kernel)
theorem dX12_init_195 : decode cX12_init 195 = .ok (.bipush 24, 2) := zDc_16 (by decide +kernel)
theorem dX12_init_197 : decode cX12_init 197 = .ok (.bipush 19, 2) := zDc_16 (by decide +kernel)
theorem dX12_init_199 : decode cX12_init 199 = .ok (.iastore, 1) := zDc_79 (by decide +kernel)
theorem dX12_init_200 : decode cX12_init 200 = .ok (.dup, 1) := zDc_89 (by decide +kernel)
theorem dX12_init_201 : decode cX12_init 201 = .ok (.bipush 25, 2) := zDc_16 (by decide +kernel)
theorem dX12_init_203 : decode cX12_init 203 = .ok (.bipush 20, 2) := zDc_16 (by decide +kernel)
theorem dX12_init_205 : decode cX12_init 205 = .ok (.iastore, 1) := zDc_79 (by decide +kernel)
theorem dX12_init_206 : decode cX12_init 206 = .ok (.dup, 1) := zDc_89 (by decide +kernel)
theorem dX12_init_207 : decode cX12_init 207 = .ok (.bipush 26, 2) := zDc_16 (by decide +kernel)
theorem dX12_init_209 : decode cX12_init 209 = .ok (.iconst 0, 1) := zDc_3 (by decide +kernel)
theorem dX12_init_210 : decode cX12_init 210 = .ok (.iastore, 1) := zDc_79 (by decide +kernel)
theorem dX12_init_211 : decode cX12_init 211 = .ok (.dup, 1) := zDc_89 (by decide +kernel)
theorem dX12_init_212 : decode cX12_init 212 = .ok (.bipush 27, 2) := zDc_16 (by decide +kernel)
theorem dX12_init_214 : decode cX12_init 214 = .ok (.bipush 9, 2) := zDc_16 (by decide +kernel)
theorem dX12_init_216 : decode cX12_init 216 = .ok (.iastore, 1) := zDc_79 (by decide +kernel)
theorem dX12_init_217 : decode cX12_init 217 = .ok (.dup, 1) := zDc_89 (by decide +kernel)
theorem dX12_init_218 : decode cX12_init 218 = .ok (.bipush 28, 2) := zDc_16 (by decide +kernel)
theorem dX12_init_220 : decode cX12_init 220 = .ok (.bipush 14, 2) := zDc_16 (by decide +kernel)
theorem dX12_init_222 : decode cX12_init 222 = .ok (.iastore, 1) := zDc_79 (by decide +kernel)
theorem dX12_init_223 : decode cX12_init 223 = .ok (.dup, 1) := zDc_89 (by decide +kernel)
theorem dX12_init_224 : decode cX12_init 224 = .ok (.bipush 29, 2) := zDc_16 (by decide +kernel)
theorem dX12_init_226 : decode cX12_init 226 = .ok (.bipush 16, 2) := zDc_16 (by decide +kernel)
theorem dX12_init_228 : decode cX12_init 228 = .ok (.iastore, 1) := zDc_79 (by decide +kernel)
theorem dX12_init_229 : decode cX12_init 229 = .ok (.dup, 1) := zDc_89 (by decide +kernel)
theorem dX12_init_230 : decode cX12_init 230 = .ok (.bipush 30, 2) := zDc_16 (by decide +kernel)
theorem dX12_init_232 : decode cX12_init 232 = .ok (.bipush 21, 2) := zDc_16 (by decide +kernel)
theorem dX12_init_234 : decode cX12_init 234 = .ok (.iastore, 1) := zDc_79 (by decide +kernel)
theorem dX12_init_235 : decode cX12_init 235 = .ok (.dup, 1) := zDc_89 (by decide +kernel)
theorem dX12_init_236 : decode cX12_init 236 = .ok (.bipush 31, 2) := zDc_16 (by decide +kernel)
theorem dX12_init_238 : decode cX12_init 238 = .ok (.bipush 20, 2) := zDc_16 (by decide +kernel)
theorem dX12_init_240 : decode cX12_init 240 = .ok (.iastore, 1) := zDc_79 (by decide +kernel)
theorem dX12_init_241 : decode cX12_init 241 = .ok (.dup, 1) := zDc_89 (by decide +kernel)
theorem dX12_init_242 : decode cX12_init 242 = .ok (.bipush 32, 2) := zDc_16 (by decide +kernel)
theorem dX12_init_244 : decode cX12_init 244 = .ok (.iconst 0, 1) := zDc_3 (by decide +kernel)
theorem dX12_init_245 : decode cX12_init 245 = .ok (.iastore, 1) := zDc_79 (by decide +kernel)
theorem dX12_init_246 : decode cX12_init 246 = .ok (.dup, 1) := zDc_89 (by decide +kernel)
theorem dX12_init_247 : decode cX12_init 247 = .ok (.bipush 33, 2) := zDc_16 (by decide +kernel)
theorem dX12_init_249 : decode cX12_init 249 = .ok (.bipush 12, 2) := zDc_16 (by decide +kernel)
theorem dX12_init_251 : decode cX12_init 251 = .ok (.iastore, 1) := zDc_79 (by decide +kernel)
theorem dX12_init_252 : decode cX12_init 252 = .ok (.dup, 1) := zDc_89 (by decide +kernel)
theorem dX12_init_253 : decode cX12_init 253 = .ok (.bipush 34, 2) := zDc_16 (by decide +kernel)
theorem dX12_init_255 : decode cX12_init 255 = .ok (.iconst 5, 1) := zDc_8 (by decide +kernel)
theorem dX12_init_256 : decode cX12_init 256 = .ok (.iastore, 1) := zDc_79 (by decide +kernel)
theorem dX12_init_257 : decode cX12_init 257 = .ok (.dup, 1) := zDc_89 (by decide +kernel)
theorem dX12_init_258 : decode cX12_init 258 = .ok (.bipush 35, 2) := zDc_16 (by decide +kernel)
theorem dX12_init_260 : decode cX12_init 260 = .ok (.bipush 20, 2) := zDc_16 (by decide +kernel)
theorem dX12_init_262 : decode cX12_init 262 = .ok (.iastore, 1) := zDc_79 (by decide +kernel)
theorem dX12_init_263 : decode cX12_init 263 = .ok (.dup, 1) := zDc_89 (by decide +kernel)
theorem dX12_init_264 : decode cX12_init 264 = .ok (.bipush 36, 2) := zDc_16 (by decide +kernel)
theorem dX12_init_266 : decode cX12_init 266 = .ok (.iconst 0, 1) := zDc_3 (by decide +kernel)
theorem dX12_init_267 : decode cX12_init 267 = .ok (.iastore, 1) := zDc_79 (by decide +kernel)
theorem dX12_init_268 : decode cX12_init 268 = .ok (.dup, 1) := zDc_89 (by decide +kernel)
theorem dX12_init_269 : decode cX12_init 269 = .ok (.bipush 37, 2) := zDc_16 (by decide +kernel)
theorem dX12_init_271 : decode cX12_init 271 = .ok (.bipush 13, 2) := zDc_16 (by decide +kernel)
theorem dX12_init_273 : decode cX12_init 273 = .ok (.iastore, 1) := zDc_79 (by decide +kernel)
theorem dX12_init_274 : decode cX12_init 274 = .ok (.dup, 1) := zDc_89 (by decide +kernel)
theorem dX12_init_275 : decode cX12_init 275 = .ok (.bipush 38, 2) := zDc_16 (by decide +kernel)
theorem dX12_init_277 : decode cX12_init 277 = .ok (.bipush 9, 2) := zDc_16 (by decide +kernel)
theorem dX12_init_279 : decode cX12_init 279 = .ok (.iastore, 1) := zDc_79 (by decide +kernel)
theorem dX12_init_280 : decode cX12_init 280 = .ok (.dup, 1) := zDc_89 (by decide +kernel)
theorem dX12_init_281 : decode cX12_init 281 = .ok (.bipush 39, 2) := zDc_16 (by decide +kernel)
theorem dX12_init_283 : decode cX12_init 283 = .ok (.bipush 14, 2) := zDc_16 (by decide +kernel)
theorem dX12_init_285 : decode cX12_init 285 = .ok (.iastore, 1) := zDc_79 (by decide +kernel)
theorem dX12_init_286 : decode cX12_init 286 = .ok (.dup, 1) := zDc_89 (by decide +kernel)
theorem dX12_init_287 : decode cX12_init 287 = .ok (.bipush 40, 2) := zDc_16 (by decide +kernel)
theorem dX12_init_289 : decode cX12_init 289 = .ok (.iconst 0, 1) := zDc_3 (by decide +kernel)
theorem dX12_init_290 : decode cX12_init 290 = .ok (.iastore, 1) := zDc_79 (by decide +kernel)
theorem dX12_init_291 : decode cX12_init 291 = .ok (.dup, 1) := zDc_89 (by decide +kernel)
theorem dX12_init_292 : decode cX12_init 292 = .ok (.bipush 41, 2) := zDc_16 (by decide +kernel)
theorem dX12_init_294 : decode cX12_init 294 = .ok (.bipush 13, 2) := zDc_16 (by decide +kernel)
theorem dX12_init_296 : decode cX12_init 296 = .ok (.iastore, 1) := zDc_79 (by decide +kernel)
theorem dX12_init_297 : decode cX12_init 297 = .ok (.dup, 1) := zDc_89 (by decide +kernel)
theorem dX12_init_298 : decode cX12_init 298 = .ok (.bipush 42, 2) := zDc_16 (by decide +kernel)
theorem dX12_init_300 : decode cX12_init 300 = .ok (.iconst 1, 1) := zDc_4 (by decide +kernel)
theorem dX12_init_301 : decode cX12_init 301 = .ok (.iastore, 1) := zDc_79 (by decide +kernel)
theorem dX12_init_302 : decode cX12_init 302 = .ok (.dup, 1) := zDc_89 (by decide +kernel)
theorem dX12_init_303 : decode cX12_init 303 = .ok (.bipush 43, 2) := zDc_16 (by decide +kernel)
theorem dX12_init_305 : decode cX12_init 305 = .ok (.bipush 24, 2) := zDc_16 (by decide +kernel)
theorem dX12_init_307 : decode cX12_init 307 = .ok (.iastore, 1) := zDc_79 (by decide +kernel)
theorem dX12_init_308 : decode cX12_init 308 = .ok (.dup, 1) := zDc_89 (by decide +kernel)
theorem dX12_init_309 : decode cX12_init 309 = .ok (.bipush 44, 2) := zDc_16 (by decide +kernel)
theorem dX12_init_311 : decode cX12_init 311 = .ok (.iconst 0, 1) := zDc_3 (by decide +kernel)
theorem dX12_init_312 : decode cX12_init 312 = .ok (.iastore, 1) := zDc_79 (by decide +kernel)
theorem dX12_init_313 : decode cX12_init 313 = .ok (.dup, 1) := zDc_89 (by decide +kernel)
theorem dX12_init_314 : decode cX12_init 314 = .ok (.bipush 45, 2) := zDc_16 (by decide +kernel)
theorem dX12_init_316 : decode cX12_init 316 = .ok (.bipush 6, 2) := zDc_16 (by decide +kernel)
theorem dX12_init_318 : decode cX12_init 318 = .ok (.iastore, 1) := zDc_79 (by decide +kernel)
theorem dX12_init_319 : decode cX12_init 319 = .ok (.dup, 1) := zDc_89 (by decide +kernel)
theorem dX12_init_320 : decode cX12_init 320 = .ok (.bipush 46, 2) := zDc_16 (by decide +kernel)
theorem dX12_init_322 : decode cX12_init 322 = .ok (.bipush 9, 2) := zDc_16 (by decide +kernel)
theorem dX12_init_324 : decode cX12_init 324 = .ok (.iastore, 1) := zDc_79 (by decide +kernel)
theorem dX12_init_325 : decode cX12_init 325 = .ok (.dup, 1) := zDc_89 (by decide +kernel)
theorem dX12_init_326 : decode cX12_init 326 = .ok (.bipush 47, 2) := zDc_16 (by decide +kernel)
theorem dX12_init_328 : decode cX12_init 328 = .ok (.bipush 24, 2) := zDc_16 (by decide +kernel)
theorem dX12_init_330 : decode cX12_init 330 = .ok (.iastore, 1) := zDc_79 (by decide +kernel)
theorem dX12_init_331 : decode cX12_init 331 = .ok (.dup, 1) := zDc_89 (by decide +kernel)
theorem dX12_init_332 : decode cX12_init 332 = .ok (.bipush 48, 2) := zDc_16 (by decide +kernel)
theorem dX12_init_334 : decode cX12_init 334 = .ok (.iconst 5, 1) := zDc_8 (by decide +kernel)
theorem dX12_init_335 : decode cX12_init 335 = .ok (.iastore, 1) := zDc_79 (by decide +kernel)
theorem dX12_init_336 : decode cX12_init 336 = .ok (.dup, 1) := zDc_89 (by decide +kernel)
theorem dX12_init_337 : decode cX12_init 337 = .ok (.bipush 49, 2) := zDc_16 (by decide +kernel)
theorem dX12_init_339 : decode cX12_init 339 = .ok (.iconst 4, 1) := zDc_7 (by decide +kernel)
theorem dX12_init_340 : decode cX12_init 340 = .ok (.iastore, 1) := zDc_79 (by decide +kernel)
theorem dX12_init_341 : decode cX12_init 341 = .ok (.dup, 1) := zDc_89 (by decide +kernel)
theorem dX12_init_342 : decode cX12_init 342 = .ok (.bipush 50, 2) := zDc_16 (by decide +kernel)
theorem dX12_init_344 : decode cX12_init 344 = .ok (.iconst 0, 1) := zDc_3 (by decide +kernel)
theorem dX12_init_345 : decode cX12_init 345 = .ok (.iastore, 1) := zDc_79 (by decide +kernel)
theorem dX12_init_346 : decode cX12_init 346 = .ok (.dup, 1) := zDc_89 (by decide +kernel)
theorem dX12_init_347 : decode cX12_init 347 = .ok (.bipush 51, 2) := zDc_16 (by decide +kernel)
theorem dX12_init_349 : decode cX12_init 349 = .ok (.bipush 7, 2) := zDc_16 (by decide +kernel)
theorem dX12_init_351 : decode cX12_init 351 = .ok (.iastore, 1) := zDc_79 (by decide +kernel)
theorem dX12_init_352 : decode cX12_init 352 = .ok (.dup, 1) := zDc_89 (by decide +kernel)
theorem dX12_init_353 : decode cX12_init 353 = .ok (.bipush 52, 2) := zDc_16 (by decide +kernel)
theorem dX12_init_355 : decode cX12_init 355 = .ok (.bipush 18, 2) := zDc_16 (by decide +kernel)
theorem dX12_init_357 : decode cX12_init 357 = .ok (.iastore, 1) := zDc_79 (by decide +kernel)
theorem dX12_init_358 : decode cX12_init 358 = .ok (.dup, 1) := zDc_89 (by decide +kernel)
theorem dX12_init_359 : decode cX12_init 359 = .ok (.bipush 53, 2) := zDc_16 (by decide +kernel)
theorem dX12_init_361 : decode cX12_init 361 = .ok (.bipush 15, 2) := zDc_16 (by decide +kernel)
theorem dX12_init_363 : decode cX12_init 363 = .ok (.iastore, 1) := zDc_79 (by decide +kernel)
theorem dX12_init_364 : decode cX12_init 364 = .ok (.dup, 1) := zDc_89 (by decide +kernel)
theorem dX12_init_365 : decode cX12_init 365 = .ok (.bipush 54, 2) := zDc_16 (by decide +kernel)
theorem dX12_init_367 : decode cX12_init 367 = .ok (.bipush 21, 2) := zDc_16 (by decide +kernel)
theorem dX12_init_369 : decode cX12_init 369 = .ok (.iastore, 1) := zDc_79 (by decide +kernel)
theorem dX12_init_370 : decode cX12_init 370 = .ok (.dup, 1) := zDc_89 (by decide +kernel)
theorem dX12_init_371 : decode cX12_init 371 = .ok (.bipush 55, 2) := zDc_16 (by decide +kernel)
theorem dX12_init_373 : decode cX12_init 373 = .ok (.bipush 16, 2) := zDc_16 (by decide +kernel)
theorem dX12_init_375 : decode cX12_init 375 = .ok (.iastore, 1) := zDc_79 (by decide +kernel)
theorem dX12_init_376 : decode cX12_init 376 = .ok (.dup, 1) := zDc_89 (by decide +kernel)
theorem dX12_init_377 : decode cX12_init 377 = .ok (.bipush 56, 2) := zDc_16 (by decide +kernel)
theorem dX12_init_379 : decode cX12_init 379 = .ok (.iconst 0, 1) := zDc_3 (by decide +kernel)
theorem dX12_init_380 : decode cX12_init 380 = .ok (.iastore, 1) := zDc_79 (by decide +kernel)
theorem dX12_init_381 : decode cX12_init 381 = .ok (.dup, 1) := zDc_89 (by decide +kernel)
theorem dX12_init_382 : decode cX12_init 382 = .ok (.bipush 57, 2) := zDc_16 (by decide +kernel)
theorem dX12_init_384 : decode cX12_init 384 = .ok (.iconst 1, 1) := zDc_4 (by decide +kernel)
theorem dX12_init_385 : decode cX12_init 385 = .ok (.iastore, 1) := zDc_79 (by decide +kernel)
theorem dX12_init_386 : decode cX12_init 386 = .ok (.dup, 1) := zDc_89 (by decide +kernel)
theorem dX12_init_387 : decode cX12_init 387 = .ok (.bipush 58, 2) := zDc_16 (by decide +kernel)
theorem dX12_init_389 : decode cX12_init 389 = .ok (.bipush 14, 2) := zDc_16 (by decide +kernel)
theorem dX12_init_391 : decode cX12_init 391 = .ok (.iastore, 1) := zDc_79 (by decide +kernel)
theorem dX12_init_392 : decode cX12_init 392 = .ok (.dup, 1) := zDc_89 (by decide +kernel)
theorem dX12_init_393 : decode cX12_init 393 = .ok (.bipush 59, 2) := zDc_16 (by decide +kernel)
theorem dX12_init_395 : decode cX12_init 395 = .ok (.bipush 19, 2) := zDc_16 (by decide +kernel)
theorem dX12_init_397 : decode cX12_init 397 = .ok (.iastore, 1) := zDc_79 (by decide +kernel)
theorem dX12_init_398 : decode cX12_init 398 = .ok (.dup, 1) := zDc_89 (by decide +kernel)
theorem dX12_init_399 : decode cX12_init 399 = .ok (.bipush 60, 2) := zDc_16 (by decide +kernel)
theorem dX12_init_401 : decode cX12_init 401 = .ok (.bipush 23, 2) := zDc_16 (by decide +kernel)
theorem dX12_init_403 : decode cX12_init 403 = .ok (.iastore, 1) := zDc_79 (by decide +kernel)
theorem dX12_init_404 : decode cX12_init 404 = .ok (.dup, 1) := zDc_89 (by decide +kernel)
theorem dX12_init_405 : decode cX12_init 405 = .ok (.bipush 61, 2) := zDc_16 (by decide +kernel)
theorem dX12_init_407 : decode cX12_init 407 = .ok (.iconst 5, 1) := zDc_8 (by decide +kernel)
theorem dX12_init_408 : decode cX12_init 408 = .ok (.iastore, 1) := zDc_79 (by decide +kernel)
theorem dX12_init_409 : decode cX12_init 409 = .ok (.dup, 1) := zDc_89 (by decide +kernel)
theorem dX12_init_410 : decode cX12_init 410 = .ok (.bipush 62, 2) := zDc_16 (by decide +kernel)
theorem dX12_init_412 : decode cX12_init 412 = .ok (.bipush 18, 2) := zDc_16 (by decide +kernel)
theorem dX12_init_414 : decode cX12_init 414 = .ok (.iastore, 1) := zDc_79 (by decide +kernel)
theorem dX12_init_415 : decode cX12_init 415 = .ok (.dup, 1) := zDc_89 (by decide +kernel)
theorem dX12_init_416 : decode cX12_init 416 = .ok (.bipush 63, 2) := zDc_16 (by decide +kernel)
theorem dX12_init_418 : decode cX12_init 418 = .ok (.iconst 0, 1) := zDc_3 (by decide +kernel)
theorem dX12_init_419 : decode cX12_init 419 = .ok (.iastore, 1) := zDc_79 (by decide +kernel)
theorem dX12_init_420 : decode cX12_init 420 = .ok (.dup, 1) := zDc_89 (by decide +kernel)
theorem dX12_init_421 : decode cX12_init 421 = .ok (.bipush 64, 2) := zDc_16 (by decide +kernel)
theorem dX12_init_423 : decode cX12_init 423 = .ok (.bipush 23, 2) := zDc_16 (by decide +kernel)
theorem dX12_init_425 : decode cX12_init 425 = .ok (.iastore, 1) := zDc_79 (by decide +kernel)
theorem dX12_init_426 : decode cX12_init 426 = .ok (.dup, 1) := zDc_89 (by decide +kernel)
theorem dX12_init_427 : decode cX12_init 427 = .ok (.bipush 65, 2) := zDc_16 (by decide +kernel)
theorem dX12_init_429 : decode cX12_init 429 = .ok (.bipush 9, 2) := zDc_16 (by decide +kernel)
theorem dX12_init_431 : decode cX12_init 431 = .ok (.iastore, 1) := zDc_79 (by decide +kernel)
theorem dX12_init_432 : decode cX12_init 432 = .ok (.dup, 1) := zDc_89 (by decide +kernel)
theorem dX12_init_433 : decode cX12_init 433 = .ok (.bipush 66, 2) := zDc_16 (by decide +kernel)
theorem dX12_init_435 : decode cX12_init 435 = .ok (.bipush 20, 2) := zDc_16 (by decide +kernel)
theorem dX12_init_437 : decode cX12_init 437 = .ok (.iastore, 1) := zDc_79 (by decide +kernel)
theorem dX12_init_438 : decode cX12_init 438 = .ok (.dup, 1) := zDc_89 (by decide +kernel)
theorem dX12_init_439 : decode cX12_init 439 = .ok (.bipush 67, 2) := zDc_16 (by decide +kernel)
theorem dX12_init_441 : decode cX12_init 441 = .ok (.bipush 8, 2) := zDc_16 (by decide +kernel)
theorem dX12_init_443 : decode cX12_init 443 = .ok (.iastore, 1) := zDc_79 (by decide +kernel)
theorem dX12_init_444 : decode cX12_init 444 = .ok (.dup, 1) := zDc_89 (by decide +kernel)
theorem dX12_init_445 : decode cX12_init 445 = .ok (.bipush 68, 2) := zDc_16 (by decide +kernel)
theorem dX12_init_447 : decode cX12_init 447 = .ok (.bipush 9, 2) := zDc_16 (by decide +kernel)
theorem dX12_init_449 : decode cX12_init 449 = .ok (.iastore, 1) := zDc_79 (by decide +kernel)
theorem dX12_init_450 : decode cX12_init 450 = .ok (.dup, 1) := zDc_89 (by decide +kernel)
theorem dX12_init_451 : decode cX12_init 451 = .ok (.bipush 69, 2) := zDc_16 (by decide +kernel)
theorem dX12_init_453 : decode cX12_init 453 = .ok (.bipush 14, 2) := zDc_16 (by decide +kernel)
theorem dX12_init_455 : decode cX12_init 455 = .ok (.iastore, 1) := zDc_79 (by decide +kernel)
theorem dX12_init_456 : decode cX12_init 456 = .ok (.dup, 1) := zDc_89 (by decide +kernel)
theorem dX12_init_457 : decode cX12_init 457 = .ok (.bipush 70, 2) := zDc_16 (by decide +kernel)
theorem dX12_init_459 : decode cX12_init 459 = .ok (.iconst 0, 1) := zDc_3 (by decide +kernel)
theorem dX12_init_460 : decode cX12_init 460 = .ok (.iastore, 1) := zDc_79 (by decide +kernel)
theorem dX12_init_461 : decode cX12_init 461 = .ok (.putfield 41, 3) := zDc_181 (by decide +kernel)
theorem dX12_init_464 : decode cX12_init 464 = .ok (.aload_n 0, 1) := zDc_42 (by decide +kernel)
theorem dX12_init_465 : decode cX12_init 465 = .ok (.iconst 0, 1) := zDc_3 (by decide +kernel)
theorem dX12_init_466 : decode cX12_init 466 = .ok (.putfield 44, 3) := zDc_181 (by decide +kernel)
theorem dX12_init_469 : decode cX12_init 469 = .ok (.aload_n 0, 1) := zDc_42 (by decide +kernel)
theorem dX12_init_470 : decode cX12_init 470 = .ok (.iconst 2, 1) := zDc_5 (by decide +kernel)
theorem dX12_init_471 : decode cX12_init 471 = .ok (.newarray .int, 2) := zDc_188_10 (by decide +kernel)
theorem dX12_init_473 : decode cX12_init 473 = .ok (.putfield 47, 3) := zDc_181 (by decide +kernel)
theorem dX12_init_476 : decode cX12_init 476 = .ok (.aload_n 0, 1) := zDc_42 (by decide +kernel)
theorem dX12_init_477 : decode cX12_init 477 = .ok (.bipush 8, 2) := zDc_16 (by decide +kernel)
theorem dX12_init_479 : decode cX12_init 479 = .ok (.newarray .int, 2) := zDc_188_10 (by decide +kernel)
theorem dX12_init_481 : decode cX12_init 481 = .ok (.putfield 50, 3) := zDc_181 (by decide +kernel)
theorem dX12_init_484 : decode cX12_init 484 = .ok (.aload_n 0, 1) := zDc_42 (by decide +kernel)
theorem dX12_init_485 : decode cX12_init 485 = .ok (.bipush 8, 2) := zDc_16 (by decide +kernel)
theorem dX12_init_487 : decode cX12_init 487 = .ok (.newarray .int, 2) := zDc_188_10 (by decide +kernel)
theorem dX12_init_489 : decode cX12_init 489 = .ok (.putfield 53, 3) := zDc_181 (by decide +kernel)
theorem dX12_init_492 : decode cX12_init 492 = .ok (.aload_n 0, 1) := zDc_42 (by decide +kernel)
theorem dX12_init_493 : decode cX12_init 493 = .ok (.bipush 8, 2) := zDc_16 (by decide +kernel)
theorem dX12_init_495 : decode cX12_init 495 = .ok (.newarray .int, 2) := zDc_188_10 (by decide +kernel)
theorem dX12_init_497 : decode cX12_init 497 = .ok (.putfield 56, 3) := zDc_181 (by decide +kernel)
theorem dX12_init_500 : decode cX12_init 500 = .ok (.aload_n 0, 1) := zDc_42 (by decide +kernel)
theorem dX12_init_501 : decode cX12_init 501 = .ok (.bipush 8, 2) := zDc_16 (by decide +kernel)
theorem dX12_init_503 : decode cX12_init 503 = .ok (.newarray .int, 2) := zDc_188_10 (by decide +kernel)
theorem dX12_init_505 : decode cX12_init 505 = .ok (.putfield 59, 3) := zDc_181 (by decide +kernel)
theorem dX12_init_508 : decode cX12_init 508 = .ok (.aload_n 0, 1) := zDc_42 (by decide +kernel)
theorem dX12_init_509 : decode cX12_init 509 = .ok (.iconst 2, 1) := zDc_5 (by decide +kernel)
theorem dX12_init_510 : decode cX12_init 510 = .ok (.newarray .int, 2) := zDc_188_10 (by decide +kernel)
theorem dX12_init_512 : decode cX12_init 512 = .ok (.putfield 62, 3) := zDc_181 (by decide +kernel)
theorem dX12_init_515 : decode cX12_init 515 = .ok (.aload_n 0, 1) := zDc_42 (by decide +kernel)
theorem dX12_init_516 : decode cX12_init 516 = .ok (.bipush 28, 2) := zDc_16 (by decide +kernel)
theorem dX12_init_518 : decode cX12_init 518 = .ok (.newarray .int, 2) := zDc_188_10 (by decide +kernel)
theorem dX12_init_520 : decode cX12_init 520 = .ok (.putfield 65, 3) := zDc_181 (by decide +kernel)
theorem dX12_init_523 : decode cX12_init 523 = .ok (.aload_n 0, 1) := zDc_42 (by decide +kernel)
theorem dX12_init_524 : decode cX12_init 524 = .ok (.bipush 28, 2) := zDc_16 (by decide +kernel)
theorem dX12_init_526 : decode cX12_init 526 = .ok (.newarray .int, 2) := zDc_188_10 (by decide +kernel)
theorem dX12_init_528 : decode cX12_init 528 = .ok (.putfield 68, 3) := zDc_181 (by decide +kernel)
theorem dX12_init_531 : decode cX12_init 531 = .ok (.aload_n 0, 1) := zDc_42 (by decide +kernel)
theorem dX12_init_532 : decode cX12_init 532 = .ok (.bipush 28, 2) := zDc_16 (by decide +kernel)
theorem dX12_init_534 : decode cX12_init 534 = .ok (.newarray .int, 2) := zDc_188_10 (by decide +kernel)
theorem dX12_init_536 : decode cX12_init 536 = .ok (.putfield 71, 3) := zDc_181 (by decide +kernel)
theorem dX12_init_539 : decode cX12_init 539 = .ok (.aload_n 0, 1) := zDc_42 (by decide +kernel)
theorem dX12_init_540 : decode cX12_init 540 = .ok (.bipush 28, 2) := zDc_16 (by decide +kernel)
theorem dX12_init_542 : decode cX12_init 542 = .ok (.newarray .int, 2) := zDc_188_10 (by decide +kernel)
theorem dX12_init_544 : decode cX12_init 544 = .ok (.putfield 74, 3) := zDc_181 (by decide +kernel)
theorem dX12_init_547 : decode cX12_init 547 = .ok (.aload_n 0, 1) := zDc_42 (by decide +kernel)
theorem dX12_init_548 : decode cX12_init 548 = .ok (.bipush 28, 2) := zDc_16 (by decide +kernel)
theorem dX12_init_550 : decode cX12_init 550 = .ok (.newarray .long, 2) := zDc_188_11 (by decide +kernel)
theorem dX12_init_552 : decode cX12_init 552 = .ok (.putfield 77, 3) := zDc_181 (by decide +kernel)
theorem dX12_init_555 : decode cX12_init 555 = .ok (.aload_n 0, 1) := zDc_42 (by decide +kernel)
theorem dX12_init_556 : decode cX12_init 556 = .ok (.bipush 28, 2) := zDc_16 (by decide +kernel)
theorem dX12_init_558 : decode cX12_init 558 = .ok (.newarray .long, 2) := zDc_188_11 (by decide +kernel)
theorem dX12_init_560 : decode cX12_init 560 = .ok (.putfield 81, 3) := zDc_181 (by decide +kernel)
theorem dX12_init_563 : decode cX12_init 563 = .ok (.aload_n 0, 1) := zDc_42 (by decide +kernel)
theorem dX12_init_564 : decode cX12_init 564 = .ok (.iconst 2, 1) := zDc_5 (by decide +kernel)
theorem dX12_init_565 : decode cX12_init 565 = .ok (.newarray .int, 2) := zDc_188_10 (by decide +kernel)
theorem dX12_init_567 : decode cX12_init 567 = .ok (.putfield 84, 3) := zDc_181 (by decide +kernel)
theorem dX12_init_570 : decode cX12_init 570 = .ok (.aload_n 0, 1) := zDc_42 (by decide +kernel)
theorem dX12_init_571 : decode cX12_init 571 = .ok (.bipush 28, 2) := zDc_16 (by decide +kernel)
theorem dX12_init_573 : decode cX12_init 573 = .ok (.newarray .int, 2) := zDc_188_10 (by decide +kernel)
theorem dX12_init_575 : decode cX12_init 575 = .ok (.putfield 87, 3) := zDc_181 (by decide +kernel)
theorem dX12_init_578 : decode cX12_init 578 = .ok (.aload_n 0, 1) := zDc_42 (by decide +kernel)
theorem dX12_init_579 : decode cX12_init 579 = .ok (.bipush 28, 2) := zDc_16 (by decide +kernel)
theorem dX12_init_581 : decode cX12_init 581 = .ok (.newarray .int, 2) := zDc_188_10 (by decide +kernel)
theorem dX12_init_583 : decode cX12_init 583 = .ok (.putfield 90, 3) := zDc_181 (by decide +kernel)
theorem dX12_init_586 : decode cX12_init 586 = .ok (.aload_n 0, 1) := zDc_42 (by decide +kernel)
theorem dX12_init_587 : decode cX12_init 587 = .ok (.bipush 28, 2) := zDc_16 (by decide +kernel)
theorem dX12_init_589 : decode cX12_init 589 = .ok (.newarray .int, 2) := zDc_188_10 (by decide +kernel)
theorem dX12_init_591 : decode cX12_init 591 = .ok (.putfield 93, 3) := zDc_181 (by decide +kernel)
theorem dX12_init_594 : decode cX12_init 594 = .ok (.aload_n 0, 1) := zDc_42 (by decide +kernel)
theorem dX12_init_595 : decode cX12_init 595 = .ok (.lconst 0, 1) := zDc_9 (by decide +kernel)
theorem dX12_init_596 : decode cX12_init 596 = .ok (.putfield 96, 3) := zDc_181 (by decide +kernel)
theorem dX12_init_599 : decode cX12_init 599 = .ok (.aload_n 0, 1) := zDc_42 (by decide +kernel)
theorem dX12_init_600 : decode cX12_init 600 = .ok (.bipush 14, 2) := zDc_16 (by decide +kernel)
theorem dX12_init_602 : decode cX12_init 602 = .ok (.newarray .int, 2) := zDc_188_10 (by decide +kernel)
theorem dX12_init_604 : decode cX12_init 604 = .ok (.putfield 100, 3) := zDc_181 (by decide +kernel)
theorem dX12_init_607 : decode cX12_init 607 = .ok (.aload_n 0, 1) := zDc_42 (by decide +kernel)
theorem dX12_init_608 : decode cX12_init 608 = .ok (.iconst 0, 1) := zDc_3 (by decide +kernel)
theorem dX12_init_609 : decode cX12_init 609 = .ok (.putfield 103, 3) := zDc_181 (by decide +kernel)
theorem dX12_init_612 : decode cX12_init 612 = .ok (.aload_n 0, 1) := zDc_42 (by decide +kernel)
theorem dX12_init_613 : decode cX12_init 613 = .ok (.bipush 14, 2) := zDc_16 (by decide +kernel)
theorem dX12_init_615 : decode cX12_init 615 = .ok (.newarray .long, 2) := zDc_188_11 (by decide +kernel)
theorem dX12_init_617 : decode cX12_init 617 = .ok (.putfield 106, 3) := zDc_181 (by decide +kernel)
theorem dX12_init_620 : decode cX12_init 620 = .ok (.aload_n 0, 1) := zDc_42 (by decide +kernel)
theorem dX12_init_621 : decode cX12_init 621 = .ok (.bipush 14, 2) := zDc_16 (by decide +kernel)
theorem dX12_init_623 : decode cX12_init 623 = .ok (.newarray .long, 2) := zDc_188_11 (by decide +kernel)
theorem dX12_init_625 : decode cX12_init 625 = .ok (.putfield 109, 3) := zDc_181 (by decide +kernel)
theorem dX12_init_628 : decode cX12_init 628 = .ok (.aload_n 0, 1) := zDc_42 (by decide +kernel)
theorem dX12_init_629 : decode cX12_init 629 = .ok (.iconst (-1), 1) := zDc_2 (by decide +kernel)
theorem dX12_init_630 : decode cX12_init 630 = .ok (.putfield 112, 3) := zDc_181 (by decide +kernel)
theorem dX12_init_633 : decode cX12_init 633 = .ok (.aload_n 0, 1) := zDc_42 (by decide +kernel)
theorem dX12_init_634 : decode cX12_init 634 = .ok (.lconst 0, 1) := zDc_9 (by decide +kernel)
theorem dX12_init_635 : decode cX12_init 635 = .ok (.putfield 115, 3) := zDc_181 (by decide +kernel)
theorem dX12_init_638 : decode cX12_init 638 = .ok (.aload_n 0, 1) := zDc_42 (by decide +kernel)
theorem dX12_init_639 : decode cX12_init 639 = .ok (.bipush 14, 2) := zDc_16 (by decide +kernel)
theorem dX12_init_641 : decode cX12_init 641 = .ok (.newarray .boolean, 2) := zDc_188_4 (by decide +kernel)
theorem dX12_init_643 : decode cX12_init 643 = .ok (.putfield 118, 3) := zDc_181 (by decide +kernel)
theorem dX12_init_646 : decode cX12_init 646 = .ok (.aload_n 0, 1) := zDc_42 (by decide +kernel)
theorem dX12_init_647 : decode cX12_init 647 = .ok (.bipush 14, 2) := zDc_16 (by decide +kernel)
theorem dX12_init_649 : decode cX12_init 649 = .ok (.newarray .int, 2) := zDc_188_10 (by decide +kernel)
theorem dX12_init_651 : decode cX12_init 651 = .ok (.putfield 122, 3) := zDc_181 (by decide +kernel)
theorem dX12_init_654 : decode cX12_init 654 = .ok (.aload_n 0, 1) := zDc_42 (by decide +kernel)
theorem dX12_init_655 : decode cX12_init 655 = .ok (.bipush 14, 2) := zDc_16 (by decide +kernel)
theorem dX12_init_657 : decode cX12_init 657 = .ok (.newarray .int, 2) := zDc_188_10 (by decide +kernel)
theorem dX12_init_659 : decode cX12_init 659 = .ok (.putfield 125, 3) := zDc_181 (by decide +kernel)
theorem dX12_init_662 : decode cX12_init 662 = .ok (.aload_n 0, 1) := zDc_42 (by decide +kernel)
theorem dX12_init_663 : decode cX12_init 663 = .ok (.iconst 0, 1) := zDc_3 (by decide +kernel)
theorem dX12_init_664 : decode cX12_init 664 = .ok (.putfield 128, 3) := zDc_181 (by decide +kernel)
theorem dX12_init_667 : decode cX12_init 667 = .ok (.aload_n 0, 1) := zDc_42 (by decide +kernel)
theorem dX12_init_668 : decode cX12_init 668 = .ok (.bipush 14, 2) := zDc_16 (by decide +kernel)
theorem dX12_init_670 : decode cX12_init 670 = .ok (.newarray .int, 2) := zDc_188_10 (by decide +kernel)
theorem dX12_init_672 : decode cX12_init 672 = .ok (.putfield 132, 3) := zDc_181 (by decide +kernel)
theorem dX12_init_675 : decode cX12_init 675 = .ok (.aload_n 0, 1) := zDc_42 (by decide +kernel)
theorem dX12_init_676 : decode cX12_init 676 = .ok (.bipush 14, 2) := zDc_16 (by decide +kernel)
theorem dX12_init_678 : decode cX12_init 678 = .ok (.newarray .long, 2) := zDc_188_11 (by decide +kernel)
theorem dX12_init_680 : decode cX12_init 680 = .ok (.putfield 135, 3) := zDc_181 (by decide +kernel)
theorem dX12_init_683 : decode cX12_init 683 = .ok (.aload_n 0, 1) := zDc_42 (by decide +kernel)
theorem dX12_init_684 : decode cX12_init 684 = .ok (.bipush (-2), 2) := zDc_16 (by decide +kernel)
theorem dX12_init_686 : decode cX12_init 686 = .ok (.putfield 138, 3) := zDc_181 (by decide +kernel)
theorem dX12_init_689 : decode cX12_init 689 = .ok (.aload_n 0, 1) := zDc_42 (by decide +kernel)
theorem dX12_init_690 : decode cX12_init 690 = .ok (.iconst 0, 1) := zDc_3 (by decide +kernel)
theorem dX12_init_691 : decode cX12_init 691 = .ok (.putfield 141, 3) := zDc_181 (by decide +kernel)
theorem dX12_init_694 : decode cX12_init 694 = .ok (.aload_n 0, 1) := zDc_42 (by decide +kernel)
theorem dX12_init_695 : decode cX12_init 695 = .ok (.bipush 14, 2) := zDc_16 (by decide +kernel)
theorem dX12_init_697 : decode cX12_init 697 = .ok (.newarray .int, 2) := zDc_188_10 (by decide +kernel)
theorem dX12_init_699 : decode cX12_init 699 = .ok (.putfield 144, 3) := zDc_181 (by decide +kernel)
theorem dX12_init_702 : decode cX12_init 702 = .ok (.aload_n 0, 1) := zDc_42 (by decide +kernel)
theorem dX12_init_703 : decode cX12_init 703 = .ok (.iconst 0, 1) := zDc_3 (by decide +kernel)
theorem dX12_init_704 : decode cX12_init 704 = .ok (.putfield 147, 3) := zDc_181 (by decide +kernel)
theorem dX12_init_707 : decode cX12_init 707 = .ok (.aload_n 0, 1) := zDc_42 (by decide +kernel)
theorem dX12_init_708 : decode cX12_init 708 = .ok (.iconst 0, 1) := zDc_3 (by decide +kernel)
theorem dX12_init_709 : decode cX12_init 709 = .ok (.putfield 150, 3) := zDc_181 (by decide +kernel)
theorem dX12_init_712 : decode cX12_init 712 = .ok (.aload_n 0, 1) := zDc_42 (by decide +kernel)
theorem dX12_init_713 : decode cX12_init 713 = .ok (.bipush 14, 2) := zDc_16 (by decide +kernel)
theorem dX12_init_715 : decode cX12_init 715 = .ok (.newarray .boolean, 2) := zDc_188_4 (by decide +kernel)
theorem dX12_init_717 : decode cX12_init 717 = .ok (.putfield 153, 3) := zDc_181 (by decide +kernel)
theorem dX12_init_720 : decode cX12_init 720 = .ok (.aload_n 0, 1) := zDc_42 (by decide +kernel)
theorem dX12_init_721 : decode cX12_init 721 = .ok (.bipush 14, 2) := zDc_16 (by decide +kernel)
theorem dX12_init_723 : decode cX12_init 723 = .ok (.newarray .int, 2) := zDc_188_10 (by decide +kernel)
theorem dX12_init_725 : decode cX12_init 725 = .ok (.putfield 156, 3) := zDc_181 (by decide +kernel)
theorem dX12_init_728 : decode cX12_init 728 = .ok (.aload_n 0, 1) := zDc_42 (by decide +kernel)
theorem dX12_init_729 : decode cX12_init 729 = .ok (.bipush 64, 2) := zDc_16 (by decide +kernel)
theorem dX12_init_731 : decode cX12_init 731 = .ok (.newarray .int, 2) := zDc_188_10 (by decide +kernel)
theorem dX12_init_733 : decode cX12_init 733 = .ok (.putfield 159, 3) := zDc_181 (by decide +kernel)
theorem dX12_init_736 : decode cX12_init 736 = .ok (.aload_n 0, 1) := zDc_42 (by decide +kernel)
theorem dX12_init_737 : decode cX12_init 737 = .ok (.bipush 64, 2) := zDc_16 (by decide +kernel)
theorem dX12_init_739 : decode cX12_init 739 = .ok (.newarray .int, 2) := zDc_188_10 (by decide +kernel)
theorem dX12_init_741 : decode cX12_init 741 = .ok (.putfield 162, 3) := zDc_181 (by decide +kernel)
theorem dX12_init_744 : decode cX12_init 744 = .ok (.aload_n 0, 1) := zDc_42 (by decide +kernel)
theorem dX12_init_745 : decode cX12_init 745 = .ok (.iconst 0, 1) := zDc_3 (by decide +kernel)
theorem dX12_init_746 : decode cX12_init 746 = .ok (.putfield 165, 3) := zDc_181 (by decide +kernel)
theorem dX12_init_749 : decode cX12_init 749 = .ok (.aload_n 0, 1) := zDc_42 (by decide +kernel)
theorem dX12_init_750 : decode cX12_init 750 = .ok (.iconst 0, 1) := zDc_3 (by decide +kernel)
theorem dX12_init_751 : decode cX12_init 751 = .ok (.putfield 168, 3) := zDc_181 (by decide +kernel)
theorem dX12_init_754 : decode cX12_init 754 = .ok (.aload_n 0, 1) := zDc_42 (by decide +kernel)
theorem dX12_init_755 : decode cX12_init 755 = .ok (.iconst (-1), 1) := zDc_2 (by decide +kernel)
theorem dX12_init_756 : decode cX12_init 756 = .ok (.putfield 171, 3) := zDc_181 (by decide +kernel)
theorem dX12_init_759 : decode cX12_init 759 = .ok (.aload_n 0, 1) := zDc_42 (by decide +kernel)
theorem dX12_init_760 : decode cX12_init 760 = .ok (.iconst (-1), 1) := zDc_2 (by decide +kernel)
theorem dX12_init_761 : decode cX12_init 761 = .ok (.putfield 174, 3) := zDc_181 (by decide +kernel)
theorem dX12_init_764 : decode cX12_init 764 = .ok (.aload_n 0, 1) := zDc_42 (by decide +kernel)
theorem dX12_init_765 : decode cX12_init 765 = .ok (.sipush 1024, 3) := zDc_17 (by decide +kernel)
theorem dX12_init_768 : decode cX12_init 768 = .ok (.newarray .int, 2) := zDc_188_10 (by decide +kernel)
theorem dX12_init_770 : decode cX12_init 770 = .ok (.putfield 177, 3) := zDc_181 (by decide +kernel)
theorem dX12_init_773 : decode cX12_init 773 = .ok (.aload_n 0, 1) := zDc_42 (by decide +kernel)
theorem dX12_init_774 : decode cX12_init 774 = .ok (.sipush 1024, 3) := zDc_17 (by decide +kernel)
theorem dX12_init_777 : decode cX12_init 777 = .ok (.newarray .long, 2) := zDc_188_11 (by decide +kernel)
theorem dX12_init_779 : decode cX12_init 779 = .ok (.putfield 180, 3) := zDc_181 (by decide +kernel)
theorem dX12_init_782 : decode cX12_init 782 = .ok (.aload_n 0, 1) := zDc_42 (by decide +kernel)
theorem dX12_init_783 : decode cX12_init 783 = .ok (.sipush 1024, 3) := zDc_17 (by decide +kernel)
theorem dX12_init_786 : decode cX12_init 786 = .ok (.newarray .int, 2) := zDc_188_10 (by decide +kernel)
theorem dX12_init_788 : decode cX12_init 788 = .ok (.putfield 183, 3) := zDc_181 (by decide +kernel)
theorem dX12_init_791 : decode cX12_init 791 = .ok (.aload_n 0, 1) := zDc_42 (by decide +kernel)
theorem dX12_init_792 : decode cX12_init 792 = .ok (.iconst 0, 1) := zDc_3 (by decide +kernel)
theorem dX12_init_793 : decode cX12_init 793 = .ok (.putfield 186, 3) := zDc_181 (by decide +kernel)
theorem dX12_init_796 : decode cX12_init 796 = .ok (.aload_n 0, 1) := zDc_42 (by decide +kernel)
theorem dX12_init_797 : decode cX12_init 797 = .ok (.iconst (-1), 1) := zDc_2 (by decide +kernel)
theorem dX12_init_798 : decode cX12_init 798 = .ok (.putfield 189, 3) := zDc_181 (by decide +kernel)
theorem dX12_init_801 : decode cX12_init 801 = .ok (.aload_n 0, 1) := zDc_42 (by decide +kernel)
theorem dX12_init_802 : decode cX12_init 802 = .ok (.iconst (-1), 1) := zDc_2 (by decide +kernel)
theorem dX12_init_803 : decode cX12_init 803 = .ok (.putfield 192, 3) := zDc_181 (by decide +kernel)
theorem dX12_init_806 : decode cX12_init 806 = .ok (.aload_n 0, 1) := zDc_42 (by decide +kernel)
theorem dX12_init_807 : decode cX12_init 807 = .ok (.bipush 14, 2) := zDc_16 (by decide +kernel)
theorem dX12_init_809 : decode cX12_init 809 = .ok (.newarray .int, 2) := zDc_188_10 (by decide +kernel)
theorem dX12_init_811 : decode cX12_init 811 = .ok (.putfield 195, 3) := zDc_181 (by decide +kernel)
theorem dX12_init_814 : decode cX12_init 814 = .ok (.aload_n 0, 1) := zDc_42 (by decide +kernel)
theorem dX12_init_815 : decode cX12_init 815 = .ok (.bipush 14, 2) := zDc_16 (by decide +kernel)
theorem dX12_init_817 : decode cX12_init 817 = .ok (.newarray .long, 2) := zDc_188_11 (by decide +kernel)
theorem dX12_init_819 : decode cX12_init 819 = .ok (.putfield 198, 3) := zDc_181 (by decide +kernel)
theorem dX12_init_822 : decode cX12_init 822 = .ok (.aload_n 0, 1) := zDc_42 (by decide +kernel)
theorem dX12_init_823 : decode cX12_init 823 = .ok (.bipush 14, 2) := zDc_16 (by decide +kernel)
theorem dX12_init_825 : decode cX12_init 825 = .ok (.newarray .long, 2) := zDc_188_11 (by decide +kernel)
theorem dX12_init_827 : decode cX12_init 827 = .ok (.putfield 201, 3) := zDc_181 (by decide +kernel)
theorem dX12_init_830 : decode cX12_init 830 = .ok (.aload_n 0, 1) := zDc_42 (by decide +kernel)
theorem dX12_init_831 : decode cX12_init 831 = .ok (.bipush 14, 2) := zDc_16 (by decide +kernel)
theorem dX12_init_833 : decode cX12_init 833 = .ok (.newarray .long, 2) := zDc_188_11 (by decide +kernel)
theorem dX12_init_835 : decode cX12_init 835 = .ok (.putfield 204, 3) := zDc_181 (by decide +kernel)
theorem dX12_init_838 : decode cX12_init 838 = .ok (.aload_n 0, 1) := zDc_42 (by decide +kernel)
theorem dX12_init_839 : decode cX12_init 839 = .ok (.iconst 1, 1) := zDc_4 (by decide +kernel)
theorem dX12_init_840 : decode cX12_init 840 = .ok (.putfield 207, 3) := zDc_181 (by decide +kernel)
theorem dX12_init_843 : decode cX12_init 843 = .ok (.aload_n 0, 1) := zDc_42 (by decide +kernel)
theorem dX12_init_844 : decode cX12_init 844 = .ok (.bipush 14, 2) := zDc_16 (by decide +kernel)
theorem dX12_init_846 : decode cX12_init 846 = .ok (.newarray .long, 2) := zDc_188_11 (by decide +kernel)
theorem dX12_init_848 : decode cX12_init 848 = .ok (.putfield 210, 3) := zDc_181 (by decide +kernel)
theorem dX12_init_851 : decode cX12_init 851 = .ok (.aload_n 0, 1) := zDc_42 (by decide +kernel)
theorem dX12_init_852 : decode cX12_init 852 = .ok (.bipush 14, 2) := zDc_16 (by decide +kernel)
theorem dX12_init_854 : decode cX12_init 854 = .ok (.newarray .long, 2) := zDc_188_11 (by decide +kernel)
theorem dX12_init_856 : decode cX12_init 856 = .ok (.putfield 213, 3) := zDc_181 (by decide +kernel)
theorem dX12_init_859 : decode cX12_init 859 = .ok (.return_, 1) := zDc_177 (by decide +kernel)
theorem dJ0_length_8abf5_0 : decode cJ0_length_8abf5 0 = .ok (.aload_n 0, 1) := zDc_42 (by decide +kernel)
theorem dJ0_length_8abf5_1 : decode cJ0_length_8abf5 1 = .ok (.getfield 9, 3) := zDc_180 (by decide +kernel)
theorem dJ0_length_8abf5_4 : decode cJ0_length_8abf5 4 = .ok (.arraylength, 1) := zDc_190 (by decide +kernel)
theorem dJ0_length_8abf5_5 : decode cJ0_length_8abf5 5 = .ok (.aload_n 0, 1) := zDc_42 (by decide +kernel)
theorem dJ0_length_8abf5_6 : decode cJ0_length_8abf5 6 = .ok (.invokevirtual 335, 3) := zDc_182 (by decide +kernel)
theorem dJ0_length_8abf5_9 : decode cJ0_length_8abf5 9 = .ok (.ishr, 1) := zDc_122 (by decide +kernel)
theorem dJ0_length_8abf5_10 : decode cJ0_length_8abf5 10 = .ok (.ireturn, 1) := zDc_172 (by decide +kernel)
theorem dJ0_charAt_5068e_0 : decode cJ0_charAt_5068e 0 = .ok (.aload_n 0, 1) := zDc_42 (by decide +kernel)
theorem dJ0_charAt_5068e_1 : decode cJ0_charAt_5068e 1 = .ok (.invokevirtual 492, 3) := zDc_182 (by decide +kernel)
theorem dJ0_charAt_5068e_4 : decode cJ0_charAt_5068e 4 = .ok (.ifCond .eq 12, 3) := zDc_153 (by decide +kernel)
theorem dJ0_charAt_5068e_7 : decode cJ0_charAt_5068e 7 = .ok (.aload_n 0, 1) := zDc_42 (by decide +kernel)
theorem dJ0_charAt_5068e_8 : decode cJ0_charAt_5068e 8 = .ok (.getfield 9, 3) := zDc_180 (by decide +kernel)
theorem dJ0_charAt_5068e_11 : decode cJ0_charAt_5068e 11 = .ok (.iload_n 1, 1) := zDc_27 (by decide +kernel)
theorem dJ0_charAt_5068e_12 : decode cJ0_charAt_5068e 12 = .ok (.invokestatic 495, 3) := zDc_184 (by decide +kernel)
theorem dJ0_charAt_5068e_15 : decode cJ0_charAt_5068e 15 = .ok (.ireturn, 1) := zDc_172 (by decide +kernel)
theorem dJ0_coder_7d493_0 : decode cJ0_coder_7d493 0 = .ok (.getstatic 38, 3) := zDc_178 (by decide +kernel)
theorem dJ0_coder_7d493_3 : decode cJ0_coder_7d493 3 = .ok (.ifCond .eq 10, 3) := zDc_153 (by decide +kernel)
theorem dJ0_coder_7d493_6 : decode cJ0_coder_7d493 6 = .ok (.aload_n 0, 1) := zDc_42 (by decide +kernel)
theorem dJ0_coder_7d493_7 : decode cJ0_coder_7d493 7 = .ok (.getfield 15, 3) := zDc_180 (by decide +kernel)
theorem dJ0_coder_7d493_10 : decode cJ0_coder_7d493 10 = .ok (.goto 4, 3) := zDc_167 (by decide +kernel)
theorem dJ0_coder_7d493_14 : decode cJ0_coder_7d493 14 = .ok (.ireturn, 1) := zDc_172 (by decide +kernel)
theorem dJ0_isLatin1_aae02_0 : decode cJ0_isLatin1_aae02 0 = .ok (.getstatic 38, 3) := zDc_178 (by decide +kernel)
theorem dJ0_isLatin1_aae02_3 : decode cJ0_isLatin1_aae02 3 = .ok (.ifCond .eq 14, 3) := zDc_153 (by decide +kernel)
theorem dJ0_isLatin1_aae02_6 : decode cJ0_isLatin1_aae02 6 = .ok (.aload_n 0, 1) := zDc_42 (by decide +kernel)
theorem dJ0_isLatin1_aae02_7 : decode cJ0_isLatin1_aae02 7 = .ok (.getfield 15, 3) := zDc_180 (by decide +kernel)
theorem dJ0_isLatin1_aae02_10 : decode cJ0_isLatin1_aae02 10 = .ok (.ifCond .ne 7, 3) := zDc_154 (by decide +kernel)
theorem dJ0_isLatin1_aae02_13 : decode cJ0_isLatin1_aae02 13 = .ok (.iconst 1, 1) := zDc_4 (by decide +kernel)
theorem dJ0_isLatin1_aae02_14 : decode cJ0_isLatin1_aae02 14 = .ok (.goto 4, 3) := zDc_167 (by decide +kernel)
theorem dJ0_isLatin1_aae02_18 : decode cJ0_isLatin1_aae02 18 = .ok (.ireturn, 1) := zDc_172 (by decide +kernel)
theorem dJ0_checkIndex_df160_0 : decode cJ0_checkIndex_df160 0 = .ok (.iload_n 0, 1) := zDc_26 (by decide +kernel)
theorem dJ0_checkIndex_df160_1 : decode cJ0_checkIndex_df160 1 = .ok (.iload_n 1, 1) := zDc_27 (by decide +kernel)
theorem dJ0_checkIndex_df160_2 : decode cJ0_checkIndex_df160 2 = .ok (.getstatic 1053, 3) := zDc_178 (by decide +kernel)
theorem dJ0_checkIndex_df160_5 : decode cJ0_checkIndex_df160 5 = .ok (.invokestatic 1059, 3) := zDc_184 (by decide +kernel)
theorem dJ0_checkIndex_df160_8 : decode cJ0_checkIndex_df160 8 = .ok (.pop, 1) := zDc_87 (by decide +kernel)
theorem dJ0_checkIndex_df160_9 : decode cJ0_checkIndex_df160 9 = .ok (.return_, 1) := zDc_177 (by decide +kernel)
theorem dJ1_charAt_3b067_0 : decode cJ1_charAt_3b067 0 = .ok (.iload_n 1, 1) := zDc_27 (by decide +kernel)
theorem dJ1_charAt_3b067_1 : decode cJ1_charAt_3b067 1 = .ok (.aload_n 0, 1) := zDc_42 (by decide +kernel)
theorem dJ1_charAt_3b067_2 : decode cJ1_charAt_3b067 2 = .ok (.arraylength, 1) := zDc_190 (by decide +kernel)
theorem dJ1_charAt_3b067_3 : decode cJ1_charAt_3b067 3 = .ok (.invokestatic 9, 3) := zDc_184 (by decide +kernel)
theorem dJ1_charAt_3b067_6 : decode cJ1_charAt_3b067 6 = .ok (.aload_n 0, 1) := zDc_42 (by decide +kernel)
theorem dJ1_charAt_3b067_7 : decode cJ1_charAt_3b067 7 = .ok (.iload_n 1, 1) := zDc_27 (by decide +kernel)
theorem dJ1_charAt_3b067_8 : decode cJ1_charAt_3b067 8 = .ok (.baload, 1) := zDc_51 (by decide +kernel)
theorem dJ1_charAt_3b067_9 : decode cJ1_charAt_3b067 9 = .ok (.sipush 255, 3) := zDc_17 (by decide +kernel)
theorem dJ1_charAt_3b067_12 : decode cJ1_charAt_3b067 12 = .ok (.iand, 1) := zDc_126 (by decide +kernel)
theorem dJ1_charAt_3b067_13 : decode cJ1_charAt_3b067 13 = .ok (.i2c, 1) := zDc_146 (by decide +kernel)
theorem dJ1_charAt_3b067_14 : decode cJ1_charAt_3b067 14 = .ok (.ireturn, 1) := zDc_172 (by decide +kernel)
theorem dJ3_checkIndex_8e157_0 : decode cJ3_checkIndex_8e157 0 = .ok (.iload_n 0, 1) := zDc_26 (by decide +kernel)
theorem dJ3_checkIndex_8e157_1 : decode cJ3_checkIndex_8e157 1 = .ok (.ifCond .lt 8, 3) := zDc_155 (by decide +kernel)
theorem dJ3_checkIndex_8e157_4 : decode cJ3_checkIndex_8e157 4 = .ok (.iload_n 0, 1) := zDc_26 (by decide +kernel)
theorem dJ3_checkIndex_8e157_5 : decode cJ3_checkIndex_8e157 5 = .ok (.iload_n 1, 1) := zDc_27 (by decide +kernel)
theorem dJ3_checkIndex_8e157_6 : decode cJ3_checkIndex_8e157 6 = .ok (.if_icmp .lt 10, 3) := zDc_161 (by decide +kernel)
theorem dJ3_checkIndex_8e157_16 : decode cJ3_checkIndex_8e157 16 = .ok (.iload_n 0, 1) := zDc_26 (by decide +kernel)
theorem dJ3_checkIndex_8e157_17 : decode cJ3_checkIndex_8e157 17 = .ok (.ireturn, 1) := zDc_172 (by decide +kernel)
