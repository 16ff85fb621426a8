theorem d_law_896 : decode code 896 = .ok (.ireturn, 1) := by decide +kernel
