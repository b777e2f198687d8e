theorem dL_law_2242 : decode cL_law 2242 = .ok (.pop2, 1) := by decide +kernel
theorem dL_law_2243 : decode cL_law 2243 = .ok (.goto 3, 3) := by decide +kernel
theorem dL_law_2246 : decode cL_law 2246 = .ok (.iinc 4 6, 3) := by decide +kernel
theorem dL_law_2249 : decode cL_law 2249 = .ok (.goto (-2222), 3) := by decide +kernel
theorem dL_law_2252 : decode cL_law 2252 = .ok (.iconst 1, 1) := by decide +kernel
theorem dL_law_2253 : decode cL_law 2253 = .ok (.ireturn, 1) := by decide +kernel
