theorem zw_X9_init_30 : Cond.methodLink RX9 3 objectInit ∈ wsX9_init := by decide +kernel
theorem zw_X9_init_31 : Cond.instanceMethod objectInit ∈ wsX9_init := by decide +kernel
theorem zw_X9_init_32 : Cond.code objectInit ⟨#[0xb1]⟩ 1 none ∈ wsX9_init := by decide +kernel
theorem zw_X9_init_33 : Cond.arrayClass .int ∈ wsX9_init := by decide +kernel
theorem zn_X9_init_X9 : ∀ w ∈ wsX90, w ∈ wsX9_init := fun _ h => List.mem_cons_of_mem _ (List.mem_append_left _ (List.mem_append_left _ (List.mem_append_left _ (List.mem_append_right _ h))))
theorem zw_X9_init_35 : Cond.fieldLink RX9 9 "ShortEnough$Task" "formatName" "[I" ∈ wsX9_init := by decide +kernel
theorem zw_X9_init_36 : Cond.fieldLink RX9 15 "ShortEnough$Task" "step" "[I" ∈ wsX9_init := by decide +kernel
theorem zw_X9_init_37 : Cond.fieldLink RX9 18 "ShortEnough$Task" "most" "[I" ∈ wsX9_init := by decide +kernel
theorem zw_X9_init_38 : Cond.fieldLink RX9 21 "ShortEnough$Task" "price" "[I" ∈ wsX9_init := by decide +kernel
theorem zn_X9_init_X4 : ∀ w ∈ wsX40, w ∈ wsX9_init := fun _ h => List.mem_cons_of_mem _ (List.mem_append_left _ (List.mem_append_left _ (List.mem_append_right _ h)))
theorem zw_X9_init_40 : Cond.classLink RX9 24 RX4 ∈ wsX9_init := by decide +kernel
theorem zw_X9_init_41 : Cond.instantiable RX4 10 ∈ wsX9_init := by decide +kernel
theorem zw_X9_init_42 : Cond.initialized RX4 ∈ wsX9_init := by decide +kernel
theorem zw_X4_init_43 : Cond.methodLink RX4 3 objectInit ∈ wsX4_init := by decide +kernel
theorem zw_X4_init_44 : Cond.instanceMethod objectInit ∈ wsX4_init := by decide +kernel
theorem zw_X4_init_45 : Cond.code objectInit ⟨#[0xb1]⟩ 1 none ∈ wsX4_init := by decide +kernel
theorem zw_X4_init_46 : Cond.arrayClass .int ∈ wsX4_init := by decide +kernel
theorem zn_X4_init_X4 : ∀ w ∈ wsX40, w ∈ wsX4_init := fun _ h => List.mem_cons_of_mem _ (List.mem_append_right _ h)
theorem zw_X4_init_48 : Cond.fieldLink RX4 9 "ShortEnough$Numbers" "name" "[I" ∈ wsX4_init := by decide +kernel
theorem zw_X4_init_49 : Cond.fieldLink RX4 15 "ShortEnough$Numbers" "op" "[I" ∈ wsX4_init := by decide +kernel
theorem zw_X4_init_50 : Cond.fieldLink RX4 18 "ShortEnough$Numbers" "fixedAs" "[I" ∈ wsX4_init := by decide +kernel
theorem zw_X4_init_51 : Cond.fieldLink RX4 21 "ShortEnough$Numbers" "allowed" "[I" ∈ wsX4_init := by decide +kernel
theorem zw_X4_init_52 : Cond.fieldLink RX4 24 "ShortEnough$Numbers" "lets" "[I" ∈ wsX4_init := by decide +kernel
theorem zw_X4_init_53 : Cond.fieldLink RX4 27 "ShortEnough$Numbers" "joined" "[I" ∈ wsX4_init := by decide +kernel
theorem zw_X4_init_54 : Cond.fieldLink RX4 30 "ShortEnough$Numbers" "made" "[I" ∈ wsX4_init := by decide +kernel
theorem zw_X4_init_55 : Cond.fieldLink RX4 33 "ShortEnough$Numbers" "amount" "[I" ∈ wsX4_init := by decide +kernel
theorem zw_X9_init_56 : Cond.instanceMethod yX4_init ∈ wsX9_init := by decide +kernel
theorem zw_X9_init_57 : Cond.fieldLink RX9 27 "ShortEnough$Task" "numbers" "LShortEnough$Numbers;" ∈ wsX9_init := by decide +kernel
theorem zn_X9_init_X2 : ∀ w ∈ wsX20, w ∈ wsX9_init := fun _ h => List.mem_cons_of_mem _ (List.mem_append_left _ (List.mem_append_right _ h))
theorem zw_X9_init_59 : Cond.classLink RX9 31 RX2 ∈ wsX9_init := by decide +kernel
theorem zw_X9_init_60 : Cond.instantiable RX2 6 ∈ wsX9_init := by decide +kernel
theorem zw_X9_init_61 : Cond.initialized RX2 ∈ wsX9_init := by decide +kernel
theorem zw_X2_init_62 : Cond.methodLink RX2 3 objectInit ∈ wsX2_init := by decide +kernel
theorem zw_X2_init_63 : Cond.instanceMethod objectInit ∈ wsX2_init := by decide +kernel
theorem zw_X2_init_64 : Cond.code objectInit ⟨#[0xb1]⟩ 1 none ∈ wsX2_init := by decide +kernel
theorem zw_X2_init_65 : Cond.arrayClass .int ∈ wsX2_init := by decide +kernel
theorem zn_X2_init_X2 : ∀ w ∈ wsX20, w ∈ wsX2_init := fun _ h => List.mem_cons_of_mem _ (List.mem_append_right _ h)
theorem zw_X2_init_67 : Cond.fieldLink RX2 9 "ShortEnough$Groups" "of" "[I" ∈ wsX2_init := by decide +kernel
theorem zw_X2_init_68 : Cond.fieldLink RX2 15 "ShortEnough$Groups" "fixedAs" "[I" ∈ wsX2_init := by decide +kernel
theorem zw_X2_init_69 : Cond.fieldLink RX2 18 "ShortEnough$Groups" "leader" "[I" ∈ wsX2_init := by decide +kernel
theorem zw_X9_init_70 : Cond.instanceMethod yX2_init ∈ wsX9_init := by decide +kernel
theorem zw_X9_init_71 : Cond.fieldLink RX9 34 "ShortEnough$Task" "groups" "LShortEnough$Groups;" ∈ wsX9_init := by decide +kernel
theorem zn_X9_init_X6 : ∀ w ∈ wsX60, w ∈ wsX9_init := fun _ h => List.mem_cons_of_mem _ (List.mem_append_right _ h)
theorem zw_X9_init_73 : Cond.classLink RX9 38 RX6 ∈ wsX9_init := by decide +kernel
theorem zw_X9_init_74 : Cond.instantiable RX6 3 ∈ wsX9_init := by decide +kernel
theorem zw_X9_init_75 : Cond.initialized RX6 ∈ wsX9_init := by decide +kernel
theorem zw_X6_init_76 : Cond.methodLink RX6 3 objectInit ∈ wsX6_init := by decide +kernel
theorem zw_X6_init_77 : Cond.instanceMethod objectInit ∈ wsX6_init := by decide +kernel
theorem zw_X6_init_78 : Cond.code objectInit ⟨#[0xb1]⟩ 1 none ∈ wsX6_init := by decide +kernel
theorem zw_X6_init_79 : Cond.arrayClass .long ∈ wsX6_init := by decide +kernel
theorem zn_X6_init_X6 : ∀ w ∈ wsX60, w ∈ wsX6_init := fun _ h => List.mem_cons_of_mem _ (List.mem_append_right _ h)
theorem zw_X6_init_81 : Cond.fieldLink RX6 9 "ShortEnough$Ranges" "low" "[J" ∈ wsX6_init := by decide +kernel
theorem zw_X6_init_82 : Cond.fieldLink RX6 15 "ShortEnough$Ranges" "high" "[J" ∈ wsX6_init := by decide +kernel
theorem zw_X6_init_83 : Cond.arrayClass .boolean ∈ wsX6_init := by decide +kernel
theorem zw_X6_init_84 : Cond.fieldLink RX6 18 "ShortEnough$Ranges" "wide" "[Z" ∈ wsX6_init := by decide +kernel
theorem zw_X9_init_85 : Cond.instanceMethod yX6_init ∈ wsX9_init := by decide +kernel
theorem zw_X9_init_86 : Cond.fieldLink RX9 41 "ShortEnough$Task" "ranges" "LShortEnough$Ranges;" ∈ wsX9_init := by decide +kernel
theorem zw_X7_init_96 : Cond.methodLink RX7 3 objectInit ∈ wsX7_init := by decide +kernel
theorem zw_X7_init_97 : Cond.instanceMethod objectInit ∈ wsX7_init := by decide +kernel
theorem zw_X7_init_98 : Cond.code objectInit ⟨#[0xb1]⟩ 1 none ∈ wsX7_init := by decide +kernel
theorem zw_X7_init_99 : Cond.arrayClass .long ∈ wsX7_init := by decide +kernel
theorem zn_X7_init_X7 : ∀ w ∈ wsX70, w ∈ wsX7_init := fun _ h => List.mem_cons_of_mem _ (List.mem_append_right _ h)
theorem zw_X7_init_101 : Cond.fieldLink RX7 9 "ShortEnough$Reckoning" "errors" "[J" ∈ wsX7_init := by decide +kernel
theorem zw_X1_init_115 : Cond.methodLink RX1 3 objectInit ∈ wsX1_init := by decide +kernel
theorem zw_X1_init_116 : Cond.instanceMethod objectInit ∈ wsX1_init := by decide +kernel
theorem zw_X1_init_117 : Cond.code objectInit ⟨#[0xb1]⟩ 1 none ∈ wsX1_init := by decide +kernel
theorem zn_X1_init_X7 : ∀ w ∈ wsX70, w ∈ wsX1_init := fun _ h => List.mem_cons_of_mem _ (List.mem_append_left _ (List.mem_append_right _ h))
theorem zw_X1_init_119 : Cond.classLink RX1 9 RX7 ∈ wsX1_init := by decide +kernel
theorem zw_X1_init_120 : Cond.instantiable RX7 3 ∈ wsX1_init := by decide +kernel
theorem zw_X1_init_121 : Cond.initialized RX7 ∈ wsX1_init := by decide +kernel
theorem zw_X1_init_122 : Cond.instanceMethod yX7_init ∈ wsX1_init := by decide +kernel
theorem zn_X1_init_X1 : ∀ w ∈ wsX10, w ∈ wsX1_init := fun _ h => List.mem_cons_of_mem _ (List.mem_append_right _ h)
theorem zw_X1_init_124 : Cond.fieldLink RX1 12 "ShortEnough$FullSearch" "reckoning" "LShortEnough$Reckoning;" ∈ wsX1_init := by decide +kernel
theorem zw_X1_init_125 : Cond.arrayClass .int ∈ wsX1_init := by decide +kernel
theorem zw_X1_init_126 : Cond.fieldLink RX1 18 "ShortEnough$FullSearch" "choice" "[I" ∈ wsX1_init := by decide +kernel
theorem zw_X1_init_127 : Cond.fieldLink RX1 22 "ShortEnough$FullSearch" "prices" "[I" ∈ wsX1_init := by decide +kernel
theorem zw_X1_init_128 : Cond.fieldLink RX1 25 "ShortEnough$FullSearch" "errors" "[I" ∈ wsX1_init := by decide +kernel
theorem zw_X1_init_129 : Cond.fieldLink RX1 28 "ShortEnough$FullSearch" "best" "I" ∈ wsX1_init := by decide +kernel
theorem zw_X1_init_130 : Cond.fieldLink RX1 32 "ShortEnough$FullSearch" "frontOf" "I" ∈ wsX1_init := by decide +kernel
theorem zw_X1_init_131 : Cond.fieldLink RX1 35 "ShortEnough$FullSearch" "frontPrice" "[I" ∈ wsX1_init := by decide +kernel
theorem zw_X1_init_132 : Cond.fieldLink RX1 38 "ShortEnough$FullSearch" "frontError" "[I" ∈ wsX1_init := by decide +kernel
theorem zw_X1_init_133 : Cond.fieldLink RX1 41 "ShortEnough$FullSearch" "frontMany" "[I" ∈ wsX1_init := by decide +kernel
theorem zw_X3_init_140 : Cond.methodLink RX3 3 objectInit ∈ wsX3_init := by decide +kernel
theorem zw_X3_init_141 : Cond.instanceMethod objectInit ∈ wsX3_init := by decide +kernel
theorem zw_X3_init_142 : Cond.code objectInit ⟨#[0xb1]⟩ 1 none ∈ wsX3_init := by decide +kernel
theorem zn_X3_init_X7 : ∀ w ∈ wsX70, w ∈ wsX3_init := fun _ h => List.mem_cons_of_mem _ (List.mem_append_left _ (List.mem_append_right _ h))
theorem zw_X3_init_144 : Cond.classLink RX3 9 RX7 ∈ wsX3_init := by decide +kernel
theorem zw_X3_init_145 : Cond.instantiable RX7 3 ∈ wsX3_init := by decide +kernel
theorem zw_X3_init_146 : Cond.initialized RX7 ∈ wsX3_init := by decide +kernel
theorem zw_X3_init_147 : Cond.instanceMethod yX7_init ∈ wsX3_init := by decide +kernel
theorem zn_X3_init_X3 : ∀ w ∈ wsX30, w ∈ wsX3_init := fun _ h => List.mem_cons_of_mem _ (List.mem_append_right _ h)
theorem zw_X3_init_149 : Cond.fieldLink RX3 12 "ShortEnough$LocalSearch" "reckoning" "LShortEnough$Reckoning;" ∈ wsX3_init := by decide +kernel
theorem zw_X3_init_150 : Cond.arrayClass .int ∈ wsX3_init := by decide +kernel
theorem zw_X3_init_151 : Cond.fieldLink RX3 18 "ShortEnough$LocalSearch" "near" "[I" ∈ wsX3_init := by decide +kernel
theorem zw_X3_init_152 : Cond.arrayClass .boolean ∈ wsX3_init := by decide +kernel
theorem zw_X3_init_153 : Cond.fieldLink RX3 22 "ShortEnough$LocalSearch" "changed" "[Z" ∈ wsX3_init := by decide +kernel
theorem zw_X3_init_154 : Cond.fieldLink RX3 26 "ShortEnough$LocalSearch" "unchanged" "[I" ∈ wsX3_init := by decide +kernel
theorem zw_X3_init_155 : Cond.fieldLink RX3 29 "ShortEnough$LocalSearch" "partFrom" "[I" ∈ wsX3_init := by decide +kernel
theorem zw_X3_init_156 : Cond.fieldLink RX3 32 "ShortEnough$LocalSearch" "partTo" "[I" ∈ wsX3_init := by decide +kernel
theorem zw_X3_init_157 : Cond.fieldLink RX3 35 "ShortEnough$LocalSearch" "row" "[I" ∈ wsX3_init := by decide +kernel
theorem zw_X3_init_158 : Cond.fieldLink RX3 38 "ShortEnough$LocalSearch" "bestGroup" "I" ∈ wsX3_init := by decide +kernel
theorem zw_X3_init_159 : Cond.fieldLink RX3 42 "ShortEnough$LocalSearch" "bestFormat" "I" ∈ wsX3_init := by decide +kernel
theorem zw_X0_init_166 : Cond.methodLink RX0 3 objectInit ∈ wsX0_init := by decide +kernel
theorem zw_X0_init_167 : Cond.instanceMethod objectInit ∈ wsX0_init := by decide +kernel
theorem zw_X0_init_168 : Cond.code objectInit ⟨#[0xb1]⟩ 1 none ∈ wsX0_init := by decide +kernel
theorem zn_X0_init_X6 : ∀ w ∈ wsX60, w ∈ wsX0_init := fun _ h => List.mem_cons_of_mem _ (List.mem_append_left _ (List.mem_append_left _ (List.mem_append_right _ h)))
theorem zw_X0_init_170 : Cond.classLink RX0 9 RX6 ∈ wsX0_init := by decide +kernel
theorem zw_X0_init_171 : Cond.instantiable RX6 3 ∈ wsX0_init := by decide +kernel
theorem zw_X0_init_172 : Cond.initialized RX6 ∈ wsX0_init := by decide +kernel
theorem zw_X0_init_173 : Cond.instanceMethod yX6_init ∈ wsX0_init := by decide +kernel
theorem zn_X0_init_X0 : ∀ w ∈ wsX00, w ∈ wsX0_init := fun _ h => List.mem_cons_of_mem _ (List.mem_append_left _ (List.mem_append_right _ h))
theorem zw_X0_init_175 : Cond.fieldLink RX0 12 "ShortEnough$CertificateReader" "said" "LShortEnough$Ranges;" ∈ wsX0_init := by decide +kernel
theorem zn_X0_init_X7 : ∀ w ∈ wsX70, w ∈ wsX0_init := fun _ h => List.mem_cons_of_mem _ (List.mem_append_right _ h)
theorem zw_X0_init_177 : Cond.classLink RX0 18 RX7 ∈ wsX0_init := by decide +kernel
theorem zw_X0_init_178 : Cond.instantiable RX7 3 ∈ wsX0_init := by decide +kernel
theorem zw_X0_init_179 : Cond.initialized RX7 ∈ wsX0_init := by decide +kernel
theorem zw_X0_init_180 : Cond.instanceMethod yX7_init ∈ wsX0_init := by decide +kernel
theorem zw_X0_init_181 : Cond.fieldLink RX0 21 "ShortEnough$CertificateReader" "saidErrors" "LShortEnough$Reckoning;" ∈ wsX0_init := by decide +kernel
theorem zw_X0_init_182 : Cond.arrayClass .int ∈ wsX0_init := by decide +kernel
theorem zw_X0_init_183 : Cond.fieldLink RX0 25 "ShortEnough$CertificateReader" "choice" "[I" ∈ wsX0_init := by decide +kernel
theorem zw_X0_init_184 : Cond.fieldLink RX0 29 "ShortEnough$CertificateReader" "breaksAt" "I" ∈ wsX0_init := by decide +kernel
theorem zw_X0_init_185 : Cond.fieldLink RX0 33 "ShortEnough$CertificateReader" "reason" "I" ∈ wsX0_init := by decide +kernel
theorem zw_X8_init_192 : Cond.methodLink RX8 3 objectInit ∈ wsX8_init := by decide +kernel
theorem zw_X8_init_193 : Cond.instanceMethod objectInit ∈ wsX8_init := by decide +kernel
theorem zw_X8_init_194 : Cond.code objectInit ⟨#[0xb1]⟩ 1 none ∈ wsX8_init := by decide +kernel
theorem zw_X8_init_195 : Cond.arrayClass .long ∈ wsX8_init := by decide +kernel
theorem zn_X8_init_X8 : ∀ w ∈ wsX80, w ∈ wsX8_init := fun _ h => List.mem_cons_of_mem _ (List.mem_append_right _ h)
theorem zw_X8_init_197 : Cond.fieldLink RX8 9 "ShortEnough$Sampler" "exact" "[J" ∈ wsX8_init := by decide +kernel
theorem zw_X8_init_198 : Cond.fieldLink RX8 15 "ShortEnough$Sampler" "kept" "[J" ∈ wsX8_init := by decide +kernel
theorem zn_X11_refuse_X11 : ∀ w ∈ wsX110, w ∈ wsX11_refuse := fun _ h => List.mem_cons_of_mem _ (List.mem_append_right _ h)
theorem zw_X11_refuse_277 : Cond.fieldLink RX11 13 "ShortEnough" "refused" "[I" ∈ wsX11_refuse := by decide +kernel
theorem zn_X11_end_X11 : ∀ w ∈ wsX110, w ∈ wsX11_end := fun _ h => List.mem_cons_of_mem _ (List.mem_append_right _ h)
theorem zw_X11_end_279 : Cond.fieldLink RX11 89 "ShortEnough" "tapeLength" "I" ∈ wsX11_end := by decide +kernel
theorem zn_X12_isRefused_X12 : ∀ w ∈ wsX120, w ∈ wsX12_isRefused := fun _ h => List.mem_cons_of_mem _ (List.mem_append_right _ h)
theorem zw_X12_isRefused_281 : Cond.fieldLink RX12 17 "ShortEnoughModel" "refused" "[I" ∈ wsX12_isRefused := by decide +kernel
theorem zn_X12_end_X12 : ∀ w ∈ wsX120, w ∈ wsX12_end := fun _ h => List.mem_cons_of_mem _ (List.mem_append_right _ h)
theorem zw_X12_end_283 : Cond.fieldLink RX12 13 "ShortEnoughModel" "taped" "I" ∈ wsX12_end := by decide +kernel
theorem zn_X11_feed_X11 : ∀ w ∈ wsX110, w ∈ wsX11_feed := fun _ h => List.mem_cons_of_mem _ (List.mem_append_right _ h)
theorem zw_X11_feed_285 : Cond.fieldLink RX11 89 "ShortEnough" "tapeLength" "I" ∈ wsX11_feed := by decide +kernel
theorem zn_X11_putBytes_X11 : ∀ w ∈ wsX110, w ∈ wsX11_putBytes := fun _ h => List.mem_cons_of_mem _ (List.mem_append_right _ h)
theorem zw_X11_putBytes_287 : Cond.fieldLink RX11 89 "ShortEnough" "tapeLength" "I" ∈ wsX11_putBytes := by decide +kernel
theorem zw_X11_putBytes_288 : Cond.fieldLink RX11 9 "ShortEnough" "tape" "[B" ∈ wsX11_putBytes := by decide +kernel
theorem zw_X12_status_289 : Cond.constantLong RX12 550 (4) ∈ wsX12_status := by decide +kernel
theorem zn_X12_status_X12 : ∀ w ∈ wsX120, w ∈ wsX12_status := fun _ h => List.mem_cons_of_mem _ (List.mem_append_right _ h)
theorem zw_X12_status_291 : Cond.fieldLink RX12 17 "ShortEnoughModel" "refused" "[I" ∈ wsX12_status := by decide +kernel
theorem zn_X11_has_X11 : ∀ w ∈ wsX110, w ∈ wsX11_has := fun _ h => List.mem_cons_of_mem _ (List.mem_append_left _ (List.mem_append_left _ (List.mem_append_left _ (List.mem_append_right _ h))))
theorem zw_X11_has_293 : Cond.fieldLink RX11 27 "ShortEnough" "current" "LShortEnough$Task;" ∈ wsX11_has := by decide +kernel
theorem zn_X11_has_X9 : ∀ w ∈ wsX90, w ∈ wsX11_has := fun _ h => List.mem_cons_of_mem _ (List.mem_append_left _ (List.mem_append_left _ (List.mem_append_right _ h)))
theorem zw_X11_has_295 : Cond.fieldLink RX11 122 "ShortEnough$Task" "numbers" "LShortEnough$Numbers;" ∈ wsX11_has := by decide +kernel
theorem zn_X11_has_X4 : ∀ w ∈ wsX40, w ∈ wsX11_has := fun _ h => List.mem_cons_of_mem _ (List.mem_append_left _ (List.mem_append_right _ h))
theorem zw_X11_has_297 : Cond.fieldLink RX11 126 "ShortEnough$Numbers" "count" "I" ∈ wsX11_has := by decide +kernel
theorem zw_X11_has_298 : Cond.fieldLink RX11 137 "ShortEnough$Task" "formats" "I" ∈ wsX11_has := by decide +kernel
theorem zw_X11_has_299 : Cond.fieldLink RX11 140 "ShortEnough$Numbers" "inputs" "I" ∈ wsX11_has := by decide +kernel
theorem zw_X11_has_300 : Cond.fieldLink RX11 107 "ShortEnough$Task" "groups" "LShortEnough$Groups;" ∈ wsX11_has := by decide +kernel
theorem zn_X11_has_X2 : ∀ w ∈ wsX20, w ∈ wsX11_has := fun _ h => List.mem_cons_of_mem _ (List.mem_append_right _ h)
theorem zw_X11_has_302 : Cond.fieldLink RX11 146 "ShortEnough$Groups" "count" "I" ∈ wsX11_has := by decide +kernel
theorem zw_X11_has_303 : Cond.fieldLink RX11 147 "ShortEnough$Groups" "free" "I" ∈ wsX11_has := by decide +kernel
theorem zw_X11_has_304 : Cond.fieldLink RX11 150 "ShortEnough$Task" "castPrice" "I" ∈ wsX11_has := by decide +kernel
theorem zw_X11_has_305 : Cond.fieldLink RX11 85 "ShortEnough" "seedNow" "I" ∈ wsX11_has := by decide +kernel
theorem zn_X12_isNumber_X12 : ∀ w ∈ wsX120, w ∈ wsX12_isNumber := fun _ h => List.mem_cons_of_mem _ (List.mem_append_right _ h)
theorem zw_X12_isNumber_307 : Cond.fieldLink RX12 62 "ShortEnoughModel" "numbers" "[I" ∈ wsX12_isNumber := by decide +kernel
