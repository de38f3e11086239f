theorem d4_5_0 : decode prog_4_method_5_code 0 = .ok (.iconst 1, 1) := by decide +kernel
theorem d4_5_1 : decode prog_4_method_5_code 1 = .ok (.ireturn, 1) := by decide +kernel
theorem d2_2_0 : decode prog_2_method_2_code 0 = .ok (.iconst 1, 1) := by decide +kernel
theorem d2_2_1 : decode prog_2_method_2_code 1 = .ok (.ireturn, 1) := by decide +kernel
theorem d9_2_0 : decode prog_9_method_2_code 0 = .ok (.aload_n 0, 1) := by decide +kernel
theorem d9_2_1 : decode prog_9_method_2_code 1 = .ok (.getfield 26, 3) := by decide +kernel
theorem d9_2_4 : decode prog_9_method_2_code 4 = .ok (.iconst (-1), 1) := by decide +kernel
theorem d9_2_5 : decode prog_9_method_2_code 5 = .ok (.if_icmp .ne 14, 3) := by decide +kernel
theorem d9_2_8 : decode prog_9_method_2_code 8 = .ok (.aload_n 0, 1) := by decide +kernel
theorem d9_2_9 : decode prog_9_method_2_code 9 = .ok (.getfield 22, 3) := by decide +kernel
theorem d9_2_12 : decode prog_9_method_2_code 12 = .ok (.iconst 1, 1) := by decide +kernel
theorem d9_2_13 : decode prog_9_method_2_code 13 = .ok (.invokestatic 33, 3) := by decide +kernel
theorem d9_2_16 : decode prog_9_method_2_code 16 = .ok (.goto 7, 3) := by decide +kernel
theorem d9_2_19 : decode prog_9_method_2_code 19 = .ok (.aload_n 0, 1) := by decide +kernel
theorem d9_2_20 : decode prog_9_method_2_code 20 = .ok (.getfield 26, 3) := by decide +kernel
theorem d9_2_23 : decode prog_9_method_2_code 23 = .ok (.istore_n 1, 1) := by decide +kernel
theorem d9_2_24 : decode prog_9_method_2_code 24 = .ok (.iload_n 1, 1) := by decide +kernel
theorem d9_2_25 : decode prog_9_method_2_code 25 = .ok (.aload_n 0, 1) := by decide +kernel
theorem d9_2_26 : decode prog_9_method_2_code 26 = .ok (.getfield 18, 3) := by decide +kernel
theorem d9_2_29 : decode prog_9_method_2_code 29 = .ok (.invokevirtual 39, 3) := by decide +kernel
theorem d9_2_32 : decode prog_9_method_2_code 32 = .ok (.iconst 1, 1) := by decide +kernel
theorem d9_2_33 : decode prog_9_method_2_code 33 = .ok (.iadd, 1) := by decide +kernel
theorem d9_2_34 : decode prog_9_method_2_code 34 = .ok (.imul, 1) := by decide +kernel
theorem d9_2_35 : decode prog_9_method_2_code 35 = .ok (.ireturn, 1) := by decide +kernel
theorem d3_6_0 : decode prog_3_method_6_code 0 = .ok (.iconst 0, 1) := by decide +kernel
theorem d3_6_1 : decode prog_3_method_6_code 1 = .ok (.istore_n 1, 1) := by decide +kernel
theorem d3_6_2 : decode prog_3_method_6_code 2 = .ok (.iconst 0, 1) := by decide +kernel
theorem d3_6_3 : decode prog_3_method_6_code 3 = .ok (.istore_n 2, 1) := by decide +kernel
theorem d3_6_4 : decode prog_3_method_6_code 4 = .ok (.iload_n 2, 1) := by decide +kernel
theorem d3_6_5 : decode prog_3_method_6_code 5 = .ok (.aload_n 0, 1) := by decide +kernel
theorem d3_6_6 : decode prog_3_method_6_code 6 = .ok (.getfield 10, 3) := by decide +kernel
theorem d3_6_9 : decode prog_3_method_6_code 9 = .ok (.invokevirtual 31, 3) := by decide +kernel
theorem d3_6_12 : decode prog_3_method_6_code 12 = .ok (.if_icmp .ge 26, 3) := by decide +kernel
theorem d3_6_15 : decode prog_3_method_6_code 15 = .ok (.iload_n 1, 1) := by decide +kernel
theorem d3_6_16 : decode prog_3_method_6_code 16 = .ok (.aload_n 0, 1) := by decide +kernel
theorem d3_6_17 : decode prog_3_method_6_code 17 = .ok (.getfield 10, 3) := by decide +kernel
theorem d3_6_20 : decode prog_3_method_6_code 20 = .ok (.iload_n 2, 1) := by decide +kernel
theorem d3_6_21 : decode prog_3_method_6_code 21 = .ok (.invokevirtual 35, 3) := by decide +kernel
theorem d3_6_24 : decode prog_3_method_6_code 24 = .ok (.checkcast 2, 3) := by decide +kernel
theorem d3_6_27 : decode prog_3_method_6_code 27 = .ok (.invokevirtual 50, 3) := by decide +kernel
theorem d3_6_30 : decode prog_3_method_6_code 30 = .ok (.iadd, 1) := by decide +kernel
theorem d3_6_31 : decode prog_3_method_6_code 31 = .ok (.istore_n 1, 1) := by decide +kernel
theorem d3_6_32 : decode prog_3_method_6_code 32 = .ok (.iinc 2 1, 3) := by decide +kernel
theorem d3_6_35 : decode prog_3_method_6_code 35 = .ok (.goto (-31), 3) := by decide +kernel
theorem d3_6_38 : decode prog_3_method_6_code 38 = .ok (.iload_n 1, 1) := by decide +kernel
theorem d3_6_39 : decode prog_3_method_6_code 39 = .ok (.ireturn, 1) := by decide +kernel
theorem d5_3_0 : decode prog_5_method_3_code 0 = .ok (.aload_n 0, 1) := by decide +kernel
theorem d5_3_1 : decode prog_5_method_3_code 1 = .ok (.getfield 10, 3) := by decide +kernel
theorem d5_3_4 : decode prog_5_method_3_code 4 = .ok (.invokevirtual 30, 3) := by decide +kernel
theorem d5_3_7 : decode prog_5_method_3_code 7 = .ok (.iconst 1, 1) := by decide +kernel
theorem d5_3_8 : decode prog_5_method_3_code 8 = .ok (.isub, 1) := by decide +kernel
theorem d5_3_9 : decode prog_5_method_3_code 9 = .ok (.istore_n 1, 1) := by decide +kernel
theorem d5_3_10 : decode prog_5_method_3_code 10 = .ok (.iconst 0, 1) := by decide +kernel
theorem d5_3_11 : decode prog_5_method_3_code 11 = .ok (.istore_n 2, 1) := by decide +kernel
theorem d5_3_12 : decode prog_5_method_3_code 12 = .ok (.iload_n 2, 1) := by decide +kernel
theorem d5_3_13 : decode prog_5_method_3_code 13 = .ok (.aload_n 0, 1) := by decide +kernel
theorem d5_3_14 : decode prog_5_method_3_code 14 = .ok (.getfield 10, 3) := by decide +kernel
theorem d5_3_17 : decode prog_5_method_3_code 17 = .ok (.invokevirtual 30, 3) := by decide +kernel
theorem d5_3_20 : decode prog_5_method_3_code 20 = .ok (.if_icmp .ge 26, 3) := by decide +kernel
theorem d5_3_23 : decode prog_5_method_3_code 23 = .ok (.iload_n 1, 1) := by decide +kernel
theorem d5_3_24 : decode prog_5_method_3_code 24 = .ok (.aload_n 0, 1) := by decide +kernel
theorem d5_3_25 : decode prog_5_method_3_code 25 = .ok (.getfield 10, 3) := by decide +kernel
theorem d5_3_28 : decode prog_5_method_3_code 28 = .ok (.iload_n 2, 1) := by decide +kernel
theorem d5_3_29 : decode prog_5_method_3_code 29 = .ok (.invokevirtual 34, 3) := by decide +kernel
theorem d5_3_32 : decode prog_5_method_3_code 32 = .ok (.checkcast 19, 3) := by decide +kernel
theorem d5_3_35 : decode prog_5_method_3_code 35 = .ok (.invokevirtual 38, 3) := by decide +kernel
theorem d5_3_38 : decode prog_5_method_3_code 38 = .ok (.iadd, 1) := by decide +kernel
theorem d5_3_39 : decode prog_5_method_3_code 39 = .ok (.istore_n 1, 1) := by decide +kernel
theorem d5_3_40 : decode prog_5_method_3_code 40 = .ok (.iinc 2 1, 3) := by decide +kernel
theorem d5_3_43 : decode prog_5_method_3_code 43 = .ok (.goto (-31), 3) := by decide +kernel
theorem d5_3_46 : decode prog_5_method_3_code 46 = .ok (.iload_n 1, 1) := by decide +kernel
theorem d5_3_47 : decode prog_5_method_3_code 47 = .ok (.ireturn, 1) := by decide +kernel
