theorem dL_law_698 : decode cL_law 698 = .ok (.ireturn, 1) := by decide +kernel
theorem dL_law_699 : decode cL_law 699 = .ok (.aload_n 1, 1) := by decide +kernel
theorem dL_law_700 : decode cL_law 700 = .ok (.invokevirtual 102, 3) := by decide +kernel
theorem dL_law_703 : decode cL_law 703 = .ok (.aload_n 2, 1) := by decide +kernel
theorem dL_law_704 : decode cL_law 704 = .ok (.invokevirtual 105, 3) := by decide +kernel
theorem dL_law_707 : decode cL_law 707 = .ok (.goto 3, 3) := by decide +kernel
theorem dL_law_710 : decode cL_law 710 = .ok (.iinc 4 6, 3) := by decide +kernel
theorem dL_law_713 : decode cL_law 713 = .ok (.goto (-680), 3) := by decide +kernel
theorem dL_law_716 : decode cL_law 716 = .ok (.iconst 1, 1) := by decide +kernel
theorem dL_law_717 : decode cL_law 717 = .ok (.ireturn, 1) := by decide +kernel
