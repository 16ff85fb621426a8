theorem d_Mo_init_101 : decode b_Mo_init 101 = .ok (.aload_n 0, 1) := by decide +kernel
theorem d_Mo_init_102 : decode b_Mo_init 102 = .ok (.bipush 61, 2) := by decide +kernel
theorem d_Mo_init_104 : decode b_Mo_init 104 = .ok (.newarray .int, 2) := by decide +kernel
theorem d_Mo_init_106 : decode b_Mo_init 106 = .ok (.putfield 47, 3) := by decide +kernel
theorem d_Mo_init_109 : decode b_Mo_init 109 = .ok (.aload_n 0, 1) := by decide +kernel
theorem d_Mo_init_110 : decode b_Mo_init 110 = .ok (.bipush 61, 2) := by decide +kernel
theorem d_Mo_init_112 : decode b_Mo_init 112 = .ok (.newarray .int, 2) := by decide +kernel
theorem d_Mo_init_114 : decode b_Mo_init 114 = .ok (.putfield 50, 3) := by decide +kernel
theorem d_Mo_init_117 : decode b_Mo_init 117 = .ok (.return_, 1) := by decide +kernel
theorem d_bitCount_0 : decode b_bitCount 0 = .ok (.iload_n 0, 1) := by decide +kernel
theorem d_bitCount_1 : decode b_bitCount 1 = .ok (.iload_n 0, 1) := by decide +kernel
theorem d_bitCount_2 : decode b_bitCount 2 = .ok (.iconst 1, 1) := by decide +kernel
theorem d_bitCount_3 : decode b_bitCount 3 = .ok (.iushr, 1) := by decide +kernel
theorem d_bitCount_4 : decode b_bitCount 4 = .ok (.ldc_w 265, 3) := by decide +kernel
theorem d_bitCount_7 : decode b_bitCount 7 = .ok (.iand, 1) := by decide +kernel
theorem d_bitCount_8 : decode b_bitCount 8 = .ok (.isub, 1) := by decide +kernel
theorem d_bitCount_9 : decode b_bitCount 9 = .ok (.istore_n 0, 1) := by decide +kernel
theorem d_bitCount_10 : decode b_bitCount 10 = .ok (.iload_n 0, 1) := by decide +kernel
theorem d_bitCount_11 : decode b_bitCount 11 = .ok (.ldc_w 266, 3) := by decide +kernel
theorem d_bitCount_14 : decode b_bitCount 14 = .ok (.iand, 1) := by decide +kernel
theorem d_bitCount_15 : decode b_bitCount 15 = .ok (.iload_n 0, 1) := by decide +kernel
theorem d_bitCount_16 : decode b_bitCount 16 = .ok (.iconst 2, 1) := by decide +kernel
theorem d_bitCount_17 : decode b_bitCount 17 = .ok (.iushr, 1) := by decide +kernel
theorem d_bitCount_18 : decode b_bitCount 18 = .ok (.ldc_w 266, 3) := by decide +kernel
theorem d_bitCount_21 : decode b_bitCount 21 = .ok (.iand, 1) := by decide +kernel
theorem d_bitCount_22 : decode b_bitCount 22 = .ok (.iadd, 1) := by decide +kernel
theorem d_bitCount_23 : decode b_bitCount 23 = .ok (.istore_n 0, 1) := by decide +kernel
theorem d_bitCount_24 : decode b_bitCount 24 = .ok (.iload_n 0, 1) := by decide +kernel
theorem d_bitCount_25 : decode b_bitCount 25 = .ok (.iload_n 0, 1) := by decide +kernel
theorem d_bitCount_26 : decode b_bitCount 26 = .ok (.iconst 4, 1) := by decide +kernel
theorem d_bitCount_27 : decode b_bitCount 27 = .ok (.iushr, 1) := by decide +kernel
theorem d_bitCount_28 : decode b_bitCount 28 = .ok (.iadd, 1) := by decide +kernel
theorem d_bitCount_29 : decode b_bitCount 29 = .ok (.ldc_w 267, 3) := by decide +kernel
theorem d_bitCount_32 : decode b_bitCount 32 = .ok (.iand, 1) := by decide +kernel
theorem d_bitCount_33 : decode b_bitCount 33 = .ok (.istore_n 0, 1) := by decide +kernel
theorem d_bitCount_34 : decode b_bitCount 34 = .ok (.iload_n 0, 1) := by decide +kernel
theorem d_bitCount_35 : decode b_bitCount 35 = .ok (.iload_n 0, 1) := by decide +kernel
theorem d_bitCount_36 : decode b_bitCount 36 = .ok (.bipush 8, 2) := by decide +kernel
theorem d_bitCount_38 : decode b_bitCount 38 = .ok (.iushr, 1) := by decide +kernel
theorem d_bitCount_39 : decode b_bitCount 39 = .ok (.iadd, 1) := by decide +kernel
theorem d_bitCount_40 : decode b_bitCount 40 = .ok (.istore_n 0, 1) := by decide +kernel
theorem d_bitCount_41 : decode b_bitCount 41 = .ok (.iload_n 0, 1) := by decide +kernel
theorem d_bitCount_42 : decode b_bitCount 42 = .ok (.iload_n 0, 1) := by decide +kernel
theorem d_bitCount_43 : decode b_bitCount 43 = .ok (.bipush 16, 2) := by decide +kernel
theorem d_bitCount_45 : decode b_bitCount 45 = .ok (.iushr, 1) := by decide +kernel
theorem d_bitCount_46 : decode b_bitCount 46 = .ok (.iadd, 1) := by decide +kernel
theorem d_bitCount_47 : decode b_bitCount 47 = .ok (.istore_n 0, 1) := by decide +kernel
theorem d_bitCount_48 : decode b_bitCount 48 = .ok (.iload_n 0, 1) := by decide +kernel
theorem d_bitCount_49 : decode b_bitCount 49 = .ok (.bipush 63, 2) := by decide +kernel
theorem d_bitCount_51 : decode b_bitCount 51 = .ok (.iand, 1) := by decide +kernel
theorem d_bitCount_52 : decode b_bitCount 52 = .ok (.ireturn, 1) := by decide +kernel
