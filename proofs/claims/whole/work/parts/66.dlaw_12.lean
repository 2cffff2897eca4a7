theorem dL_law_1611 : decode cL_law 1611 = .ok (.lcmp, 1) := by decide +kernel
theorem dL_law_1612 : decode cL_law 1612 = .ok (.ifCond .eq 5, 3) := by decide +kernel
theorem dL_law_1615 : decode cL_law 1615 = .ok (.iconst 0, 1) := by decide +kernel
theorem dL_law_1616 : decode cL_law 1616 = .ok (.ireturn, 1) := by decide +kernel
theorem dL_law_1617 : decode cL_law 1617 = .ok (.goto 3, 3) := by decide +kernel
theorem dL_law_1620 : decode cL_law 1620 = .ok (.iinc 4 8, 3) := by decide +kernel
theorem dL_law_1623 : decode cL_law 1623 = .ok (.goto (-1600), 3) := by decide +kernel
theorem dL_law_1626 : decode cL_law 1626 = .ok (.iconst 1, 1) := by decide +kernel
theorem dL_law_1627 : decode cL_law 1627 = .ok (.ireturn, 1) := by decide +kernel

