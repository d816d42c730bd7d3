/-! law rows -/
theorem zl_0 : decode code 0 = .ok (.new 7, 3) := by decide +kernel
theorem zl_3 : decode code 3 = .ok (.dup, 1) := by decide +kernel
theorem zl_4 : decode code 4 = .ok (.invokespecial 9, 3) := by decide +kernel
theorem zl_7 : decode code 7 = .ok (.astore_n 1, 1) := by decide +kernel
theorem zl_8 : decode code 8 = .ok (.new 10, 3) := by decide +kernel
theorem zl_11 : decode code 11 = .ok (.dup, 1) := by decide +kernel
theorem zl_12 : decode code 12 = .ok (.invokespecial 12, 3) := by decide +kernel
theorem zl_15 : decode code 15 = .ok (.astore_n 2, 1) := by decide +kernel
theorem zl_16 : decode code 16 = .ok (.iconst 0, 1) := by decide +kernel
theorem zl_17 : decode code 17 = .ok (.istore_n 3, 1) := by decide +kernel
theorem zl_18 : decode code 18 = .ok (.iload_n 3, 1) := by decide +kernel
theorem zl_19 : decode code 19 = .ok (.aload_n 0, 1) := by decide +kernel
