theorem dL_law_919 : decode cL_law 919 = .ok (.if_icmp .eq 5, 3) := by decide +kernel
theorem dL_law_924 : decode cL_law 924 = .ok (.iload 6, 2) := by decide +kernel
theorem dL_law_926 : decode cL_law 926 = .ok (.ifCond .ne 22, 3) := by decide +kernel
theorem dL_law_948 : decode cL_law 948 = .ok (.goto 1688, 3) := by decide +kernel
