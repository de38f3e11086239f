theorem d1_24_0 : decode prog_1_method_24_code 0 = .ok (.aload_n 0, 1) := by decide +kernel
theorem d1_24_1 : decode prog_1_method_24_code 1 = .ok (.getfield 34, 3) := by decide +kernel
theorem d1_24_4 : decode prog_1_method_24_code 4 = .ok (.aload_n 0, 1) := by decide +kernel
theorem d1_24_5 : decode prog_1_method_24_code 5 = .ok (.getfield 27, 3) := by decide +kernel
theorem d1_24_8 : decode prog_1_method_24_code 8 = .ok (.invokevirtual 156, 3) := by decide +kernel
theorem d1_24_11 : decode prog_1_method_24_code 11 = .ok (.pop, 1) := by decide +kernel
theorem d1_24_12 : decode prog_1_method_24_code 12 = .ok (.aload_n 0, 1) := by decide +kernel
theorem d1_24_13 : decode prog_1_method_24_code 13 = .ok (.new 22, 3) := by decide +kernel
theorem d1_24_16 : decode prog_1_method_24_code 16 = .ok (.dup, 1) := by decide +kernel
theorem d1_24_17 : decode prog_1_method_24_code 17 = .ok (.iconst 0, 1) := by decide +kernel
theorem d1_24_18 : decode prog_1_method_24_code 18 = .ok (.invokespecial 24, 3) := by decide +kernel
theorem d1_24_21 : decode prog_1_method_24_code 21 = .ok (.putfield 27, 3) := by decide +kernel
theorem d1_24_24 : decode prog_1_method_24_code 24 = .ok (.return_, 1) := by decide +kernel
