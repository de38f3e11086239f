theorem d4_2_0 : decode prog_4_method_2_code 0 = .ok (.iload_n 1, 1) := by decide +kernel
theorem d4_2_1 : decode prog_4_method_2_code 1 = .ok (.istore_n 3, 1) := by decide +kernel
theorem d4_2_2 : decode prog_4_method_2_code 2 = .ok (.iload_n 3, 1) := by decide +kernel
theorem d4_2_3 : decode prog_4_method_2_code 3 = .ok (.iload_n 2, 1) := by decide +kernel
theorem d4_2_4 : decode prog_4_method_2_code 4 = .ok (.if_icmp .gt 45, 3) := by decide +kernel
theorem d4_2_7 : decode prog_4_method_2_code 7 = .ok (.iload_n 3, 1) := by decide +kernel
theorem d4_2_8 : decode prog_4_method_2_code 8 = .ok (.bipush 64, 2) := by decide +kernel
theorem d4_2_10 : decode prog_4_method_2_code 10 = .ok (.if_icmp .ge 18, 3) := by decide +kernel
theorem d4_2_13 : decode prog_4_method_2_code 13 = .ok (.aload_n 0, 1) := by decide +kernel
theorem d4_2_14 : decode prog_4_method_2_code 14 = .ok (.dup, 1) := by decide +kernel
theorem d4_2_15 : decode prog_4_method_2_code 15 = .ok (.getfield 9, 3) := by decide +kernel
theorem d4_2_18 : decode prog_4_method_2_code 18 = .ok (.lconst 1, 1) := by decide +kernel
theorem d4_2_19 : decode prog_4_method_2_code 19 = .ok (.iload_n 3, 1) := by decide +kernel
theorem d4_2_20 : decode prog_4_method_2_code 20 = .ok (.lshl, 1) := by decide +kernel
theorem d4_2_21 : decode prog_4_method_2_code 21 = .ok (.lor, 1) := by decide +kernel
theorem d4_2_22 : decode prog_4_method_2_code 22 = .ok (.putfield 9, 3) := by decide +kernel
theorem d4_2_25 : decode prog_4_method_2_code 25 = .ok (.goto 18, 3) := by decide +kernel
theorem d4_2_28 : decode prog_4_method_2_code 28 = .ok (.aload_n 0, 1) := by decide +kernel
theorem d4_2_29 : decode prog_4_method_2_code 29 = .ok (.dup, 1) := by decide +kernel
theorem d4_2_30 : decode prog_4_method_2_code 30 = .ok (.getfield 15, 3) := by decide +kernel
theorem d4_2_33 : decode prog_4_method_2_code 33 = .ok (.lconst 1, 1) := by decide +kernel
theorem d4_2_34 : decode prog_4_method_2_code 34 = .ok (.iload_n 3, 1) := by decide +kernel
theorem d4_2_35 : decode prog_4_method_2_code 35 = .ok (.bipush 64, 2) := by decide +kernel
theorem d4_2_37 : decode prog_4_method_2_code 37 = .ok (.isub, 1) := by decide +kernel
theorem d4_2_38 : decode prog_4_method_2_code 38 = .ok (.lshl, 1) := by decide +kernel
theorem d4_2_39 : decode prog_4_method_2_code 39 = .ok (.lor, 1) := by decide +kernel
theorem d4_2_40 : decode prog_4_method_2_code 40 = .ok (.putfield 15, 3) := by decide +kernel
theorem d4_2_43 : decode prog_4_method_2_code 43 = .ok (.iinc 3 1, 3) := by decide +kernel
theorem d4_2_46 : decode prog_4_method_2_code 46 = .ok (.goto (-44), 3) := by decide +kernel
theorem d4_2_49 : decode prog_4_method_2_code 49 = .ok (.return_, 1) := by decide +kernel
