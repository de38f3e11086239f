theorem d1_20_0 : decode prog_1_method_20_code 0 = .ok (.iload_n 0, 1) := by decide +kernel
theorem d1_20_1 : decode prog_1_method_20_code 1 = .ok (.bipush 32, 2) := by decide +kernel
theorem d1_20_3 : decode prog_1_method_20_code 3 = .ok (.if_icmp .lt 13, 3) := by decide +kernel
theorem d1_20_6 : decode prog_1_method_20_code 6 = .ok (.iload_n 0, 1) := by decide +kernel
theorem d1_20_7 : decode prog_1_method_20_code 7 = .ok (.bipush 126, 2) := by decide +kernel
theorem d1_20_9 : decode prog_1_method_20_code 9 = .ok (.if_icmp .gt 7, 3) := by decide +kernel
theorem d1_20_12 : decode prog_1_method_20_code 12 = .ok (.iconst 1, 1) := by decide +kernel
theorem d1_20_13 : decode prog_1_method_20_code 13 = .ok (.goto 4, 3) := by decide +kernel
theorem d1_20_16 : decode prog_1_method_20_code 16 = .ok (.iconst 0, 1) := by decide +kernel
theorem d1_20_17 : decode prog_1_method_20_code 17 = .ok (.ireturn, 1) := by decide +kernel
theorem d1_21_0 : decode prog_1_method_21_code 0 = .ok (.iload_n 0, 1) := by decide +kernel
theorem d1_21_1 : decode prog_1_method_21_code 1 = .ok (.bipush 10, 2) := by decide +kernel
theorem d1_21_3 : decode prog_1_method_21_code 3 = .ok (.if_icmp .eq 10, 3) := by decide +kernel
theorem d1_21_6 : decode prog_1_method_21_code 6 = .ok (.iload_n 0, 1) := by decide +kernel
theorem d1_21_7 : decode prog_1_method_21_code 7 = .ok (.invokestatic 79, 3) := by decide +kernel
theorem d1_21_10 : decode prog_1_method_21_code 10 = .ok (.ifCond .eq 7, 3) := by decide +kernel
theorem d1_21_13 : decode prog_1_method_21_code 13 = .ok (.iconst 1, 1) := by decide +kernel
theorem d1_21_14 : decode prog_1_method_21_code 14 = .ok (.goto 4, 3) := by decide +kernel
theorem d1_21_17 : decode prog_1_method_21_code 17 = .ok (.iconst 0, 1) := by decide +kernel
theorem d1_21_18 : decode prog_1_method_21_code 18 = .ok (.ireturn, 1) := by decide +kernel
theorem d1_19_0 : decode prog_1_method_19_code 0 = .ok (.iload_n 0, 1) := by decide +kernel
theorem d1_19_1 : decode prog_1_method_19_code 1 = .ok (.ifCond .lt 13, 3) := by decide +kernel
theorem d1_19_4 : decode prog_1_method_19_code 4 = .ok (.iload_n 0, 1) := by decide +kernel
theorem d1_19_5 : decode prog_1_method_19_code 5 = .ok (.bipush 10, 2) := by decide +kernel
theorem d1_19_7 : decode prog_1_method_19_code 7 = .ok (.if_icmp .ge 7, 3) := by decide +kernel
theorem d1_19_10 : decode prog_1_method_19_code 10 = .ok (.iconst 1, 1) := by decide +kernel
theorem d1_19_11 : decode prog_1_method_19_code 11 = .ok (.goto 4, 3) := by decide +kernel
theorem d1_19_14 : decode prog_1_method_19_code 14 = .ok (.iconst 0, 1) := by decide +kernel
theorem d1_19_15 : decode prog_1_method_19_code 15 = .ok (.ireturn, 1) := by decide +kernel
theorem d14_2_0 : decode prog_14_method_2_code 0 = .ok (.iload_n 0, 1) := by decide +kernel
theorem d14_2_1 : decode prog_14_method_2_code 1 = .ok (.bipush 10, 2) := by decide +kernel
theorem d14_2_3 : decode prog_14_method_2_code 3 = .ok (.if_icmp .eq 15, 3) := by decide +kernel
theorem d14_2_6 : decode prog_14_method_2_code 6 = .ok (.iload_n 0, 1) := by decide +kernel
theorem d14_2_7 : decode prog_14_method_2_code 7 = .ok (.bipush 32, 2) := by decide +kernel
theorem d14_2_9 : decode prog_14_method_2_code 9 = .ok (.if_icmp .lt 13, 3) := by decide +kernel
theorem d14_2_12 : decode prog_14_method_2_code 12 = .ok (.iload_n 0, 1) := by decide +kernel
theorem d14_2_13 : decode prog_14_method_2_code 13 = .ok (.bipush 126, 2) := by decide +kernel
theorem d14_2_15 : decode prog_14_method_2_code 15 = .ok (.if_icmp .gt 7, 3) := by decide +kernel
theorem d14_2_18 : decode prog_14_method_2_code 18 = .ok (.iconst 1, 1) := by decide +kernel
theorem d14_2_19 : decode prog_14_method_2_code 19 = .ok (.goto 4, 3) := by decide +kernel
theorem d14_2_22 : decode prog_14_method_2_code 22 = .ok (.iconst 0, 1) := by decide +kernel
theorem d14_2_23 : decode prog_14_method_2_code 23 = .ok (.ireturn, 1) := by decide +kernel
theorem d1_23_0 : decode prog_1_method_23_code 0 = .ok (.aload_n 0, 1) := by decide +kernel
theorem d1_23_1 : decode prog_1_method_23_code 1 = .ok (.getfield 18, 3) := by decide +kernel
theorem d1_23_4 : decode prog_1_method_23_code 4 = .ok (.iload_n 1, 1) := by decide +kernel
theorem d1_23_5 : decode prog_1_method_23_code 5 = .ok (.aaload, 1) := by decide +kernel
theorem d1_23_6 : decode prog_1_method_23_code 6 = .ok (.astore_n 2, 1) := by decide +kernel
theorem d1_23_7 : decode prog_1_method_23_code 7 = .ok (.aload_n 2, 1) := by decide +kernel
theorem d1_23_8 : decode prog_1_method_23_code 8 = .ok (.ifnonnull 5, 3) := by decide +kernel
theorem d1_23_11 : decode prog_1_method_23_code 11 = .ok (.iconst 0, 1) := by decide +kernel
theorem d1_23_12 : decode prog_1_method_23_code 12 = .ok (.ireturn, 1) := by decide +kernel
theorem d1_23_13 : decode prog_1_method_23_code 13 = .ok (.aload_n 2, 1) := by decide +kernel
theorem d1_23_14 : decode prog_1_method_23_code 14 = .ok (.iconst 0, 1) := by decide +kernel
theorem d1_23_15 : decode prog_1_method_23_code 15 = .ok (.putfield 152, 3) := by decide +kernel
theorem d1_23_18 : decode prog_1_method_23_code 18 = .ok (.aload_n 0, 1) := by decide +kernel
theorem d1_23_19 : decode prog_1_method_23_code 19 = .ok (.getfield 18, 3) := by decide +kernel
theorem d1_23_22 : decode prog_1_method_23_code 22 = .ok (.iload_n 1, 1) := by decide +kernel
theorem d1_23_23 : decode prog_1_method_23_code 23 = .ok (.aconst_null, 1) := by decide +kernel
theorem d1_23_24 : decode prog_1_method_23_code 24 = .ok (.aastore, 1) := by decide +kernel
theorem d1_23_25 : decode prog_1_method_23_code 25 = .ok (.iconst 1, 1) := by decide +kernel
theorem d1_23_26 : decode prog_1_method_23_code 26 = .ok (.ireturn, 1) := by decide +kernel
