theorem dL_law_762 : decode cL_law 762 = .ok (.iload 5, 2) := by decide +kernel
theorem dL_law_764 : decode cL_law 764 = .ok (.ifCond .ne 15, 3) := by decide +kernel
theorem dL_law_767 : decode cL_law 767 = .ok (.aload_n 3, 1) := by decide +kernel
theorem dL_law_768 : decode cL_law 768 = .ok (.iconst 0, 1) := by decide +kernel
theorem dL_law_769 : decode cL_law 769 = .ok (.laload, 1) := by decide +kernel
theorem dL_law_770 : decode cL_law 770 = .ok (.iload 6, 2) := by decide +kernel
theorem dL_law_772 : decode cL_law 772 = .ok (.i2l, 1) := by decide +kernel
theorem dL_law_773 : decode cL_law 773 = .ok (.lcmp, 1) := by decide +kernel
theorem dL_law_774 : decode cL_law 774 = .ok (.ifCond .eq 5, 3) := by decide +kernel
theorem dL_law_777 : decode cL_law 777 = .ok (.iconst 0, 1) := by decide +kernel
theorem dL_law_778 : decode cL_law 778 = .ok (.ireturn, 1) := by decide +kernel
theorem dL_law_779 : decode cL_law 779 = .ok (.goto 3, 3) := by decide +kernel
theorem dL_law_782 : decode cL_law 782 = .ok (.iinc 4 9, 3) := by decide +kernel
theorem dL_law_785 : decode cL_law 785 = .ok (.goto (-762), 3) := by decide +kernel
theorem dL_law_788 : decode cL_law 788 = .ok (.iconst 1, 1) := by decide +kernel
theorem dL_law_789 : decode cL_law 789 = .ok (.ireturn, 1) := by decide +kernel
