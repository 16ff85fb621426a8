theorem d_law_896 : decode code 896 = .ok (.iinc 4 6, 3) := by decide +kernel
theorem d_law_899 : decode code 899 = .ok (.goto (-876), 3) := by decide +kernel
theorem d_law_902 : decode code 902 = .ok (.iconst 1, 1) := by decide +kernel
theorem d_law_903 : decode code 903 = .ok (.ireturn, 1) := by decide +kernel
