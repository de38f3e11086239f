theorem d35_27_0 : decode prog_35_method_27_code 0 = .ok (.iload_n 0, 1) := by decide +kernel
theorem d35_27_1 : decode prog_35_method_27_code 1 = .ok (.iload_n 1, 1) := by decide +kernel
theorem d35_27_2 : decode prog_35_method_27_code 2 = .ok (.iload_n 2, 1) := by decide +kernel
theorem d35_27_3 : decode prog_35_method_27_code 3 = .ok (.invokestatic 194, 3) := by decide +kernel
theorem d35_27_6 : decode prog_35_method_27_code 6 = .ok (.iadd, 1) := by decide +kernel
theorem d35_27_7 : decode prog_35_method_27_code 7 = .ok (.istore_n 3, 1) := by decide +kernel
theorem d35_27_8 : decode prog_35_method_27_code 8 = .ok (.iconst 0, 1) := by decide +kernel
theorem d35_27_9 : decode prog_35_method_27_code 9 = .ok (.iload_n 3, 1) := by decide +kernel
theorem d35_27_10 : decode prog_35_method_27_code 10 = .ok (.if_icmp .ge 11, 3) := by decide +kernel
theorem d35_27_13 : decode prog_35_method_27_code 13 = .ok (.iload_n 3, 1) := by decide +kernel
theorem d35_27_14 : decode prog_35_method_27_code 14 = .ok (.ldc 200, 2) := by decide +kernel
theorem d35_27_16 : decode prog_35_method_27_code 16 = .ok (.if_icmp .gt 5, 3) := by decide +kernel
theorem d35_27_19 : decode prog_35_method_27_code 19 = .ok (.iload_n 3, 1) := by decide +kernel
theorem d35_27_20 : decode prog_35_method_27_code 20 = .ok (.ireturn, 1) := by decide +kernel
theorem d35_27_21 : decode prog_35_method_27_code 21 = .ok (.iload_n 0, 1) := by decide +kernel
theorem d35_27_22 : decode prog_35_method_27_code 22 = .ok (.iload_n 1, 1) := by decide +kernel
theorem d35_27_23 : decode prog_35_method_27_code 23 = .ok (.invokestatic 201, 3) := by decide +kernel
theorem d35_27_26 : decode prog_35_method_27_code 26 = .ok (.ireturn, 1) := by decide +kernel
theorem d29_120_0 : decode prog_29_method_120_code 0 = .ok (.aload_n 2, 1) := by decide +kernel
theorem d29_120_1 : decode prog_29_method_120_code 1 = .ok (.ldc 110, 2) := by decide +kernel
theorem d29_120_3 : decode prog_29_method_120_code 3 = .ok (.if_acmp .ne 10, 3) := by decide +kernel
theorem d29_120_6 : decode prog_29_method_120_code 6 = .ok (.iload_n 1, 1) := by decide +kernel
theorem d29_120_7 : decode prog_29_method_120_code 7 = .ok (.anewarray 2, 3) := by decide +kernel
theorem d29_120_10 : decode prog_29_method_120_code 10 = .ok (.goto 14, 3) := by decide +kernel
theorem d29_120_13 : decode prog_29_method_120_code 13 = .ok (.aload_n 2, 1) := by decide +kernel
theorem d29_120_14 : decode prog_29_method_120_code 14 = .ok (.invokevirtual 90, 3) := by decide +kernel
theorem d29_120_17 : decode prog_29_method_120_code 17 = .ok (.iload_n 1, 1) := by decide +kernel
theorem d29_120_18 : decode prog_29_method_120_code 18 = .ok (.invokestatic 95, 3) := by decide +kernel
theorem d29_120_21 : decode prog_29_method_120_code 21 = .ok (.checkcast 110, 3) := by decide +kernel
theorem d29_120_24 : decode prog_29_method_120_code 24 = .ok (.astore_n 3, 1) := by decide +kernel
theorem d29_120_25 : decode prog_29_method_120_code 25 = .ok (.aload_n 0, 1) := by decide +kernel
theorem d29_120_26 : decode prog_29_method_120_code 26 = .ok (.iconst 0, 1) := by decide +kernel
theorem d29_120_27 : decode prog_29_method_120_code 27 = .ok (.aload_n 3, 1) := by decide +kernel
theorem d29_120_28 : decode prog_29_method_120_code 28 = .ok (.iconst 0, 1) := by decide +kernel
theorem d29_120_29 : decode prog_29_method_120_code 29 = .ok (.aload_n 0, 1) := by decide +kernel
theorem d29_120_30 : decode prog_29_method_120_code 30 = .ok (.arraylength, 1) := by decide +kernel
theorem d29_120_31 : decode prog_29_method_120_code 31 = .ok (.iload_n 1, 1) := by decide +kernel
theorem d29_120_32 : decode prog_29_method_120_code 32 = .ok (.invokestatic 304, 3) := by decide +kernel
theorem d29_120_35 : decode prog_29_method_120_code 35 = .ok (.invokestatic 150, 3) := by decide +kernel
theorem d29_120_38 : decode prog_29_method_120_code 38 = .ok (.aload_n 3, 1) := by decide +kernel
theorem d29_120_39 : decode prog_29_method_120_code 39 = .ok (.areturn, 1) := by decide +kernel
theorem d29_119_0 : decode prog_29_method_119_code 0 = .ok (.aload_n 0, 1) := by decide +kernel
theorem d29_119_1 : decode prog_29_method_119_code 1 = .ok (.iload_n 1, 1) := by decide +kernel
theorem d29_119_2 : decode prog_29_method_119_code 2 = .ok (.aload_n 0, 1) := by decide +kernel
theorem d29_119_3 : decode prog_29_method_119_code 3 = .ok (.invokevirtual 86, 3) := by decide +kernel
theorem d29_119_6 : decode prog_29_method_119_code 6 = .ok (.invokestatic 300, 3) := by decide +kernel
theorem d29_119_9 : decode prog_29_method_119_code 9 = .ok (.areturn, 1) := by decide +kernel
