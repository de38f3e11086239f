theorem d1_26_0 : decode prog_1_method_26_code 0 = .ok (.aload_n 0, 1) := by decide +kernel
theorem d1_26_1 : decode prog_1_method_26_code 1 = .ok (.getfield 34, 3) := by decide +kernel
theorem d1_26_4 : decode prog_1_method_26_code 4 = .ok (.invokevirtual 129, 3) := by decide +kernel
theorem d1_26_7 : decode prog_1_method_26_code 7 = .ok (.istore_n 1, 1) := by decide +kernel
theorem d1_26_8 : decode prog_1_method_26_code 8 = .ok (.iload_n 1, 1) := by decide +kernel
theorem d1_26_9 : decode prog_1_method_26_code 9 = .ok (.iconst 2, 1) := by decide +kernel
theorem d1_26_10 : decode prog_1_method_26_code 10 = .ok (.if_icmp .lt 42, 3) := by decide +kernel
theorem d1_26_13 : decode prog_1_method_26_code 13 = .ok (.aload_n 0, 1) := by decide +kernel
theorem d1_26_14 : decode prog_1_method_26_code 14 = .ok (.getfield 34, 3) := by decide +kernel
theorem d1_26_17 : decode prog_1_method_26_code 17 = .ok (.iload_n 1, 1) := by decide +kernel
theorem d1_26_18 : decode prog_1_method_26_code 18 = .ok (.iconst 1, 1) := by decide +kernel
theorem d1_26_19 : decode prog_1_method_26_code 19 = .ok (.isub, 1) := by decide +kernel
theorem d1_26_20 : decode prog_1_method_26_code 20 = .ok (.invokevirtual 132, 3) := by decide +kernel
theorem d1_26_23 : decode prog_1_method_26_code 23 = .ok (.checkcast 22, 3) := by decide +kernel
theorem d1_26_26 : decode prog_1_method_26_code 26 = .ok (.getfield 136, 3) := by decide +kernel
theorem d1_26_29 : decode prog_1_method_26_code 29 = .ok (.aload_n 0, 1) := by decide +kernel
theorem d1_26_30 : decode prog_1_method_26_code 30 = .ok (.getfield 34, 3) := by decide +kernel
theorem d1_26_33 : decode prog_1_method_26_code 33 = .ok (.iload_n 1, 1) := by decide +kernel
theorem d1_26_34 : decode prog_1_method_26_code 34 = .ok (.iconst 2, 1) := by decide +kernel
theorem d1_26_35 : decode prog_1_method_26_code 35 = .ok (.isub, 1) := by decide +kernel
theorem d1_26_36 : decode prog_1_method_26_code 36 = .ok (.invokevirtual 132, 3) := by decide +kernel
theorem d1_26_39 : decode prog_1_method_26_code 39 = .ok (.checkcast 22, 3) := by decide +kernel
theorem d1_26_42 : decode prog_1_method_26_code 42 = .ok (.getfield 136, 3) := by decide +kernel
theorem d1_26_45 : decode prog_1_method_26_code 45 = .ok (.if_icmp .ne 7, 3) := by decide +kernel
theorem d1_26_48 : decode prog_1_method_26_code 48 = .ok (.iconst 1, 1) := by decide +kernel
theorem d1_26_49 : decode prog_1_method_26_code 49 = .ok (.goto 4, 3) := by decide +kernel
theorem d1_26_52 : decode prog_1_method_26_code 52 = .ok (.iconst 0, 1) := by decide +kernel
theorem d1_26_53 : decode prog_1_method_26_code 53 = .ok (.ireturn, 1) := by decide +kernel
theorem d1_25_0 : decode prog_1_method_25_code 0 = .ok (.aload_n 0, 1) := by decide +kernel
theorem d1_25_1 : decode prog_1_method_25_code 1 = .ok (.getfield 34, 3) := by decide +kernel
theorem d1_25_4 : decode prog_1_method_25_code 4 = .ok (.invokevirtual 129, 3) := by decide +kernel
theorem d1_25_7 : decode prog_1_method_25_code 7 = .ok (.istore_n 1, 1) := by decide +kernel
theorem d1_25_8 : decode prog_1_method_25_code 8 = .ok (.iconst 1, 1) := by decide +kernel
theorem d1_25_9 : decode prog_1_method_25_code 9 = .ok (.istore_n 2, 1) := by decide +kernel
theorem d1_25_10 : decode prog_1_method_25_code 10 = .ok (.iload_n 2, 1) := by decide +kernel
theorem d1_25_11 : decode prog_1_method_25_code 11 = .ok (.iload_n 1, 1) := by decide +kernel
theorem d1_25_12 : decode prog_1_method_25_code 12 = .ok (.if_icmp .ge 20, 3) := by decide +kernel
theorem d1_25_15 : decode prog_1_method_25_code 15 = .ok (.aload_n 0, 1) := by decide +kernel
theorem d1_25_16 : decode prog_1_method_25_code 16 = .ok (.invokevirtual 159, 3) := by decide +kernel
theorem d1_25_19 : decode prog_1_method_25_code 19 = .ok (.ifCond .eq 13, 3) := by decide +kernel
theorem d1_25_22 : decode prog_1_method_25_code 22 = .ok (.aload_n 0, 1) := by decide +kernel
theorem d1_25_23 : decode prog_1_method_25_code 23 = .ok (.invokevirtual 146, 3) := by decide +kernel
theorem d1_25_26 : decode prog_1_method_25_code 26 = .ok (.iinc 2 1, 3) := by decide +kernel
theorem d1_25_29 : decode prog_1_method_25_code 29 = .ok (.goto (-19), 3) := by decide +kernel
theorem d1_25_32 : decode prog_1_method_25_code 32 = .ok (.return_, 1) := by decide +kernel
