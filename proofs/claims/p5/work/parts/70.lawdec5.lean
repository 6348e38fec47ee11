theorem dL_law_1158 : decode cL_law 1158 = .ok (.iconst 1, 1) := by decide +kernel
theorem dL_law_1159 : decode cL_law 1159 = .ok (.iadd, 1) := by decide +kernel
theorem dL_law_1160 : decode cL_law 1160 = .ok (.iaload, 1) := by decide +kernel
theorem dL_law_1161 : decode cL_law 1161 = .ok (.invokevirtual 167, 3) := by decide +kernel
theorem dL_law_1164 : decode cL_law 1164 = .ok (.pop, 1) := by decide +kernel
theorem dL_law_1165 : decode cL_law 1165 = .ok (.goto 3, 3) := by decide +kernel
theorem dL_law_1168 : decode cL_law 1168 = .ok (.iinc 3 6, 3) := by decide +kernel
theorem dL_law_1171 : decode cL_law 1171 = .ok (.goto (-1153), 3) := by decide +kernel
theorem dL_law_1174 : decode cL_law 1174 = .ok (.iconst 1, 1) := by decide +kernel
theorem dL_law_1175 : decode cL_law 1175 = .ok (.ireturn, 1) := by decide +kernel
