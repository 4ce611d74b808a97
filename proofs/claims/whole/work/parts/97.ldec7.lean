theorem d_law_744 : decode code 744 = .ok (.laload, 1) := by decide +kernel
theorem d_law_745 : decode code 745 = .ok (.iload 6, 2) := by decide +kernel
theorem d_law_747 : decode code 747 = .ok (.i2l, 1) := by decide +kernel
theorem d_law_748 : decode code 748 = .ok (.lcmp, 1) := by decide +kernel
theorem d_law_749 : decode code 749 = .ok (.ifCond .eq 5, 3) := by decide +kernel
theorem d_law_752 : decode code 752 = .ok (.iconst 0, 1) := by decide +kernel
theorem d_law_753 : decode code 753 = .ok (.ireturn, 1) := by decide +kernel
theorem d_law_754 : decode code 754 = .ok (.goto 3, 3) := by decide +kernel
theorem d_law_757 : decode code 757 = .ok (.iinc 4 4, 3) := by decide +kernel
theorem d_law_760 : decode code 760 = .ok (.goto (-737), 3) := by decide +kernel
theorem d_law_763 : decode code 763 = .ok (.iconst 1, 1) := by decide +kernel
theorem d_law_764 : decode code 764 = .ok (.ireturn, 1) := by decide +kernel
