theorem d11_3_0 : decode prog_11_method_3_code 0 = .ok (.iconst 0, 1) := by decide +kernel
theorem d11_3_1 : decode prog_11_method_3_code 1 = .ok (.istore_n 2, 1) := by decide +kernel
theorem d11_3_2 : decode prog_11_method_3_code 2 = .ok (.iload_n 2, 1) := by decide +kernel
theorem d11_3_3 : decode prog_11_method_3_code 3 = .ok (.aload_n 1, 1) := by decide +kernel
theorem d11_3_4 : decode prog_11_method_3_code 4 = .ok (.getfield 23, 3) := by decide +kernel
theorem d11_3_7 : decode prog_11_method_3_code 7 = .ok (.if_icmp .ge 20, 3) := by decide +kernel
theorem d11_3_10 : decode prog_11_method_3_code 10 = .ok (.aload_n 0, 1) := by decide +kernel
theorem d11_3_11 : decode prog_11_method_3_code 11 = .ok (.aload_n 1, 1) := by decide +kernel
theorem d11_3_12 : decode prog_11_method_3_code 12 = .ok (.iload_n 2, 1) := by decide +kernel
theorem d11_3_13 : decode prog_11_method_3_code 13 = .ok (.invokevirtual 29, 3) := by decide +kernel
theorem d11_3_16 : decode prog_11_method_3_code 16 = .ok (.ifCond .eq 5, 3) := by decide +kernel
theorem d11_3_19 : decode prog_11_method_3_code 19 = .ok (.iconst 1, 1) := by decide +kernel
theorem d11_3_20 : decode prog_11_method_3_code 20 = .ok (.ireturn, 1) := by decide +kernel
theorem d11_3_21 : decode prog_11_method_3_code 21 = .ok (.iinc 2 1, 3) := by decide +kernel
theorem d11_3_24 : decode prog_11_method_3_code 24 = .ok (.goto (-22), 3) := by decide +kernel
theorem d11_3_27 : decode prog_11_method_3_code 27 = .ok (.iconst 0, 1) := by decide +kernel
theorem d11_3_28 : decode prog_11_method_3_code 28 = .ok (.ireturn, 1) := by decide +kernel
theorem d11_4_0 : decode prog_11_method_4_code 0 = .ok (.iconst 0, 1) := by decide +kernel
theorem d11_4_1 : decode prog_11_method_4_code 1 = .ok (.istore_n 3, 1) := by decide +kernel
theorem d11_4_2 : decode prog_11_method_4_code 2 = .ok (.iload_n 3, 1) := by decide +kernel
theorem d11_4_3 : decode prog_11_method_4_code 3 = .ok (.iconst 2, 1) := by decide +kernel
theorem d11_4_4 : decode prog_11_method_4_code 4 = .ok (.iadd, 1) := by decide +kernel
theorem d11_4_5 : decode prog_11_method_4_code 5 = .ok (.aload_n 1, 1) := by decide +kernel
theorem d11_4_6 : decode prog_11_method_4_code 6 = .ok (.iload_n 2, 1) := by decide +kernel
theorem d11_4_7 : decode prog_11_method_4_code 7 = .ok (.invokevirtual 33, 3) := by decide +kernel
theorem d11_4_10 : decode prog_11_method_4_code 10 = .ok (.if_icmp .ge 40, 3) := by decide +kernel
theorem d11_4_13 : decode prog_11_method_4_code 13 = .ok (.aload_n 0, 1) := by decide +kernel
theorem d11_4_14 : decode prog_11_method_4_code 14 = .ok (.aload_n 1, 1) := by decide +kernel
theorem d11_4_15 : decode prog_11_method_4_code 15 = .ok (.iload_n 2, 1) := by decide +kernel
theorem d11_4_16 : decode prog_11_method_4_code 16 = .ok (.iload_n 3, 1) := by decide +kernel
theorem d11_4_17 : decode prog_11_method_4_code 17 = .ok (.invokevirtual 37, 3) := by decide +kernel
theorem d11_4_20 : decode prog_11_method_4_code 20 = .ok (.aload_n 1, 1) := by decide +kernel
theorem d11_4_21 : decode prog_11_method_4_code 21 = .ok (.iload_n 2, 1) := by decide +kernel
theorem d11_4_22 : decode prog_11_method_4_code 22 = .ok (.iload_n 3, 1) := by decide +kernel
theorem d11_4_23 : decode prog_11_method_4_code 23 = .ok (.iconst 1, 1) := by decide +kernel
theorem d11_4_24 : decode prog_11_method_4_code 24 = .ok (.iadd, 1) := by decide +kernel
theorem d11_4_25 : decode prog_11_method_4_code 25 = .ok (.invokevirtual 37, 3) := by decide +kernel
theorem d11_4_28 : decode prog_11_method_4_code 28 = .ok (.aload_n 1, 1) := by decide +kernel
theorem d11_4_29 : decode prog_11_method_4_code 29 = .ok (.iload_n 2, 1) := by decide +kernel
theorem d11_4_30 : decode prog_11_method_4_code 30 = .ok (.iload_n 3, 1) := by decide +kernel
theorem d11_4_31 : decode prog_11_method_4_code 31 = .ok (.iconst 2, 1) := by decide +kernel
theorem d11_4_32 : decode prog_11_method_4_code 32 = .ok (.iadd, 1) := by decide +kernel
theorem d11_4_33 : decode prog_11_method_4_code 33 = .ok (.invokevirtual 37, 3) := by decide +kernel
theorem d11_4_36 : decode prog_11_method_4_code 36 = .ok (.invokevirtual 41, 3) := by decide +kernel
theorem d11_4_39 : decode prog_11_method_4_code 39 = .ok (.ifCond .ne 5, 3) := by decide +kernel
theorem d11_4_42 : decode prog_11_method_4_code 42 = .ok (.iconst 0, 1) := by decide +kernel
theorem d11_4_43 : decode prog_11_method_4_code 43 = .ok (.ireturn, 1) := by decide +kernel
theorem d11_4_44 : decode prog_11_method_4_code 44 = .ok (.iinc 3 1, 3) := by decide +kernel
theorem d11_4_47 : decode prog_11_method_4_code 47 = .ok (.goto (-45), 3) := by decide +kernel
theorem d11_4_50 : decode prog_11_method_4_code 50 = .ok (.iconst 1, 1) := by decide +kernel
theorem d11_4_51 : decode prog_11_method_4_code 51 = .ok (.ireturn, 1) := by decide +kernel
theorem d12_3_0 : decode prog_12_method_3_code 0 = .ok (.aload_n 0, 1) := by decide +kernel
theorem d12_3_1 : decode prog_12_method_3_code 1 = .ok (.getfield 13, 3) := by decide +kernel
theorem d12_3_4 : decode prog_12_method_3_code 4 = .ok (.iload_n 1, 1) := by decide +kernel
theorem d12_3_5 : decode prog_12_method_3_code 5 = .ok (.iaload, 1) := by decide +kernel
theorem d12_3_6 : decode prog_12_method_3_code 6 = .ok (.ireturn, 1) := by decide +kernel
theorem d6_4_0 : decode prog_6_method_4_code 0 = .ok (.iconst 0, 1) := by decide +kernel
theorem d6_4_1 : decode prog_6_method_4_code 1 = .ok (.istore_n 2, 1) := by decide +kernel
theorem d6_4_2 : decode prog_6_method_4_code 2 = .ok (.iload_n 2, 1) := by decide +kernel
theorem d6_4_3 : decode prog_6_method_4_code 3 = .ok (.aload_n 0, 1) := by decide +kernel
theorem d6_4_4 : decode prog_6_method_4_code 4 = .ok (.getfield 10, 3) := by decide +kernel
theorem d6_4_7 : decode prog_6_method_4_code 7 = .ok (.invokevirtual 47, 3) := by decide +kernel
theorem d6_4_10 : decode prog_6_method_4_code 10 = .ok (.if_icmp .ge 29, 3) := by decide +kernel
theorem d6_4_13 : decode prog_6_method_4_code 13 = .ok (.aload_n 1, 1) := by decide +kernel
theorem d6_4_14 : decode prog_6_method_4_code 14 = .ok (.aload_n 0, 1) := by decide +kernel
theorem d6_4_15 : decode prog_6_method_4_code 15 = .ok (.getfield 10, 3) := by decide +kernel
theorem d6_4_18 : decode prog_6_method_4_code 18 = .ok (.iload_n 2, 1) := by decide +kernel
theorem d6_4_19 : decode prog_6_method_4_code 19 = .ok (.invokevirtual 51, 3) := by decide +kernel
theorem d6_4_22 : decode prog_6_method_4_code 22 = .ok (.checkcast 20, 3) := by decide +kernel
theorem d6_4_25 : decode prog_6_method_4_code 25 = .ok (.invokevirtual 55, 3) := by decide +kernel
theorem d6_4_28 : decode prog_6_method_4_code 28 = .ok (.ifCond .ne 5, 3) := by decide +kernel
theorem d6_4_31 : decode prog_6_method_4_code 31 = .ok (.iconst 0, 1) := by decide +kernel
theorem d6_4_32 : decode prog_6_method_4_code 32 = .ok (.ireturn, 1) := by decide +kernel
theorem d6_4_33 : decode prog_6_method_4_code 33 = .ok (.iinc 2 1, 3) := by decide +kernel
theorem d6_4_36 : decode prog_6_method_4_code 36 = .ok (.goto (-34), 3) := by decide +kernel
theorem d6_4_39 : decode prog_6_method_4_code 39 = .ok (.iconst 0, 1) := by decide +kernel
theorem d6_4_40 : decode prog_6_method_4_code 40 = .ok (.istore_n 2, 1) := by decide +kernel
theorem d6_4_41 : decode prog_6_method_4_code 41 = .ok (.iload_n 2, 1) := by decide +kernel
theorem d6_4_42 : decode prog_6_method_4_code 42 = .ok (.aload_n 0, 1) := by decide +kernel
theorem d6_4_43 : decode prog_6_method_4_code 43 = .ok (.getfield 16, 3) := by decide +kernel
theorem d6_4_46 : decode prog_6_method_4_code 46 = .ok (.invokevirtual 47, 3) := by decide +kernel
theorem d6_4_49 : decode prog_6_method_4_code 49 = .ok (.if_icmp .ge 29, 3) := by decide +kernel
theorem d6_4_52 : decode prog_6_method_4_code 52 = .ok (.aload_n 0, 1) := by decide +kernel
theorem d6_4_53 : decode prog_6_method_4_code 53 = .ok (.getfield 16, 3) := by decide +kernel
theorem d6_4_56 : decode prog_6_method_4_code 56 = .ok (.iload_n 2, 1) := by decide +kernel
theorem d6_4_57 : decode prog_6_method_4_code 57 = .ok (.invokevirtual 51, 3) := by decide +kernel
theorem d6_4_60 : decode prog_6_method_4_code 60 = .ok (.checkcast 34, 3) := by decide +kernel
theorem d6_4_63 : decode prog_6_method_4_code 63 = .ok (.aload_n 1, 1) := by decide +kernel
theorem d6_4_64 : decode prog_6_method_4_code 64 = .ok (.invokevirtual 61, 3) := by decide +kernel
theorem d6_4_67 : decode prog_6_method_4_code 67 = .ok (.ifCond .ne 5, 3) := by decide +kernel
theorem d6_4_70 : decode prog_6_method_4_code 70 = .ok (.iconst 0, 1) := by decide +kernel
theorem d6_4_71 : decode prog_6_method_4_code 71 = .ok (.ireturn, 1) := by decide +kernel
theorem d6_4_72 : decode prog_6_method_4_code 72 = .ok (.iinc 2 1, 3) := by decide +kernel
theorem d6_4_75 : decode prog_6_method_4_code 75 = .ok (.goto (-34), 3) := by decide +kernel
theorem d6_4_78 : decode prog_6_method_4_code 78 = .ok (.aload_n 1, 1) := by decide +kernel
theorem d6_4_79 : decode prog_6_method_4_code 79 = .ok (.aload_n 0, 1) := by decide +kernel
theorem d6_4_80 : decode prog_6_method_4_code 80 = .ok (.getfield 25, 3) := by decide +kernel
theorem d6_4_83 : decode prog_6_method_4_code 83 = .ok (.invokevirtual 55, 3) := by decide +kernel
theorem d6_4_86 : decode prog_6_method_4_code 86 = .ok (.ireturn, 1) := by decide +kernel
