theorem d4_7_0 : decode prog_4_method_7_code 0 = .ok (.aload_n 0, 1) := by decide +kernel
theorem d4_7_1 : decode prog_4_method_7_code 1 = .ok (.getfield 33, 3) := by decide +kernel
theorem d4_7_4 : decode prog_4_method_7_code 4 = .ok (.ifnull 14, 3) := by decide +kernel
theorem d4_7_7 : decode prog_4_method_7_code 7 = .ok (.aload_n 1, 1) := by decide +kernel
theorem d4_7_8 : decode prog_4_method_7_code 8 = .ok (.aload_n 0, 1) := by decide +kernel
theorem d4_7_9 : decode prog_4_method_7_code 9 = .ok (.getfield 33, 3) := by decide +kernel
theorem d4_7_12 : decode prog_4_method_7_code 12 = .ok (.invokevirtual 45, 3) := by decide +kernel
theorem d4_7_15 : decode prog_4_method_7_code 15 = .ok (.ifCond .eq 7, 3) := by decide +kernel
theorem d4_7_18 : decode prog_4_method_7_code 18 = .ok (.iconst 1, 1) := by decide +kernel
theorem d4_7_19 : decode prog_4_method_7_code 19 = .ok (.goto 4, 3) := by decide +kernel
theorem d4_7_22 : decode prog_4_method_7_code 22 = .ok (.iconst 0, 1) := by decide +kernel
theorem d4_7_23 : decode prog_4_method_7_code 23 = .ok (.ireturn, 1) := by decide +kernel
theorem d2_4_0 : decode prog_2_method_4_code 0 = .ok (.iconst 1, 1) := by decide +kernel
theorem d2_4_1 : decode prog_2_method_4_code 1 = .ok (.ireturn, 1) := by decide +kernel
theorem d9_4_0 : decode prog_9_method_4_code 0 = .ok (.aload_n 0, 1) := by decide +kernel
theorem d9_4_1 : decode prog_9_method_4_code 1 = .ok (.getfield 12, 3) := by decide +kernel
theorem d9_4_4 : decode prog_9_method_4_code 4 = .ok (.aload_n 1, 1) := by decide +kernel
theorem d9_4_5 : decode prog_9_method_4_code 5 = .ok (.invokevirtual 58, 3) := by decide +kernel
theorem d9_4_8 : decode prog_9_method_4_code 8 = .ok (.ireturn, 1) := by decide +kernel
theorem d3_8_0 : decode prog_3_method_8_code 0 = .ok (.aload_n 0, 1) := by decide +kernel
theorem d3_8_1 : decode prog_3_method_8_code 1 = .ok (.getfield 19, 3) := by decide +kernel
theorem d3_8_4 : decode prog_3_method_8_code 4 = .ok (.aload_n 1, 1) := by decide +kernel
theorem d3_8_5 : decode prog_3_method_8_code 5 = .ok (.invokevirtual 68, 3) := by decide +kernel
theorem d3_8_8 : decode prog_3_method_8_code 8 = .ok (.ireturn, 1) := by decide +kernel
theorem d5_5_0 : decode prog_5_method_5_code 0 = .ok (.iconst 0, 1) := by decide +kernel
theorem d5_5_1 : decode prog_5_method_5_code 1 = .ok (.istore_n 2, 1) := by decide +kernel
theorem d5_5_2 : decode prog_5_method_5_code 2 = .ok (.iload_n 2, 1) := by decide +kernel
theorem d5_5_3 : decode prog_5_method_5_code 3 = .ok (.aload_n 0, 1) := by decide +kernel
theorem d5_5_4 : decode prog_5_method_5_code 4 = .ok (.getfield 10, 3) := by decide +kernel
theorem d5_5_7 : decode prog_5_method_5_code 7 = .ok (.invokevirtual 30, 3) := by decide +kernel
theorem d5_5_10 : decode prog_5_method_5_code 10 = .ok (.if_icmp .ge 29, 3) := by decide +kernel
theorem d5_5_13 : decode prog_5_method_5_code 13 = .ok (.aload_n 0, 1) := by decide +kernel
theorem d5_5_14 : decode prog_5_method_5_code 14 = .ok (.getfield 10, 3) := by decide +kernel
theorem d5_5_17 : decode prog_5_method_5_code 17 = .ok (.iload_n 2, 1) := by decide +kernel
theorem d5_5_18 : decode prog_5_method_5_code 18 = .ok (.invokevirtual 34, 3) := by decide +kernel
theorem d5_5_21 : decode prog_5_method_5_code 21 = .ok (.checkcast 19, 3) := by decide +kernel
theorem d5_5_24 : decode prog_5_method_5_code 24 = .ok (.aload_n 1, 1) := by decide +kernel
theorem d5_5_25 : decode prog_5_method_5_code 25 = .ok (.invokevirtual 60, 3) := by decide +kernel
theorem d5_5_28 : decode prog_5_method_5_code 28 = .ok (.ifCond .eq 5, 3) := by decide +kernel
theorem d5_5_31 : decode prog_5_method_5_code 31 = .ok (.iconst 1, 1) := by decide +kernel
theorem d5_5_32 : decode prog_5_method_5_code 32 = .ok (.ireturn, 1) := by decide +kernel
theorem d5_5_33 : decode prog_5_method_5_code 33 = .ok (.iinc 2 1, 3) := by decide +kernel
theorem d5_5_36 : decode prog_5_method_5_code 36 = .ok (.goto (-34), 3) := by decide +kernel
theorem d5_5_39 : decode prog_5_method_5_code 39 = .ok (.iconst 0, 1) := by decide +kernel
theorem d5_5_40 : decode prog_5_method_5_code 40 = .ok (.ireturn, 1) := by decide +kernel
