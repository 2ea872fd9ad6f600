theorem dL_law_2306 : decode cL_law 2306 = .ok (.iinc 4 6, 3) := by decide +kernel
theorem dL_law_2309 : decode cL_law 2309 = .ok (.goto (-2286), 3) := by decide +kernel
theorem dL_law_2312 : decode cL_law 2312 = .ok (.iconst 1, 1) := by decide +kernel
theorem dL_law_2313 : decode cL_law 2313 = .ok (.ireturn, 1) := by decide +kernel
