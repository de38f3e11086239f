theorem d8_6_0 : decode prog_8_method_6_code 0 = .ok (.iload_n 1, 1) := by decide +kernel
theorem d8_6_1 : decode prog_8_method_6_code 1 = .ok (.aload_n 0, 1) := by decide +kernel
theorem d8_6_2 : decode prog_8_method_6_code 2 = .ok (.getfield 26, 3) := by decide +kernel
theorem d8_6_5 : decode prog_8_method_6_code 5 = .ok (.if_icmp .ge 12, 3) := by decide +kernel
theorem d8_6_8 : decode prog_8_method_6_code 8 = .ok (.aload_n 0, 1) := by decide +kernel
theorem d8_6_9 : decode prog_8_method_6_code 9 = .ok (.getfield 22, 3) := by decide +kernel
theorem d8_6_12 : decode prog_8_method_6_code 12 = .ok (.iload_n 1, 1) := by decide +kernel
theorem d8_6_13 : decode prog_8_method_6_code 13 = .ok (.caload, 1) := by decide +kernel
theorem d8_6_14 : decode prog_8_method_6_code 14 = .ok (.goto 4, 3) := by decide +kernel
theorem d8_6_17 : decode prog_8_method_6_code 17 = .ok (.iconst 0, 1) := by decide +kernel
theorem d8_6_18 : decode prog_8_method_6_code 18 = .ok (.ireturn, 1) := by decide +kernel
theorem d8_13_0 : decode prog_8_method_13_code 0 = .ok (.aload_n 0, 1) := by decide +kernel
theorem d8_13_1 : decode prog_8_method_13_code 1 = .ok (.iload_n 1, 1) := by decide +kernel
theorem d8_13_2 : decode prog_8_method_13_code 2 = .ok (.invokevirtual 123, 3) := by decide +kernel
theorem d8_13_5 : decode prog_8_method_13_code 5 = .ok (.istore_n 2, 1) := by decide +kernel
theorem d8_13_6 : decode prog_8_method_13_code 6 = .ok (.iload_n 2, 1) := by decide +kernel
theorem d8_13_7 : decode prog_8_method_13_code 7 = .ok (.bipush 48, 2) := by decide +kernel
theorem d8_13_9 : decode prog_8_method_13_code 9 = .ok (.if_icmp .lt 16, 3) := by decide +kernel
theorem d8_13_12 : decode prog_8_method_13_code 12 = .ok (.iload_n 2, 1) := by decide +kernel
theorem d8_13_13 : decode prog_8_method_13_code 13 = .ok (.bipush 57, 2) := by decide +kernel
theorem d8_13_15 : decode prog_8_method_13_code 15 = .ok (.if_icmp .gt 10, 3) := by decide +kernel
theorem d8_13_18 : decode prog_8_method_13_code 18 = .ok (.iload_n 2, 1) := by decide +kernel
theorem d8_13_19 : decode prog_8_method_13_code 19 = .ok (.bipush 48, 2) := by decide +kernel
theorem d8_13_21 : decode prog_8_method_13_code 21 = .ok (.isub, 1) := by decide +kernel
theorem d8_13_22 : decode prog_8_method_13_code 22 = .ok (.goto 4, 3) := by decide +kernel
theorem d8_13_25 : decode prog_8_method_13_code 25 = .ok (.iconst (-1), 1) := by decide +kernel
theorem d8_13_26 : decode prog_8_method_13_code 26 = .ok (.ireturn, 1) := by decide +kernel
