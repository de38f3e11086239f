theorem d4_1_0 : decode prog_4_method_1_code 0 = .ok (.aload_n 0, 1) := by decide +kernel
theorem d4_1_1 : decode prog_4_method_1_code 1 = .ok (.invokespecial 3, 3) := by decide +kernel
theorem d4_1_4 : decode prog_4_method_1_code 4 = .ok (.return_, 1) := by decide +kernel
theorem d2_1_0 : decode prog_2_method_1_code 0 = .ok (.aload_n 0, 1) := by decide +kernel
theorem d2_1_1 : decode prog_2_method_1_code 1 = .ok (.invokespecial 1, 3) := by decide +kernel
theorem d2_1_4 : decode prog_2_method_1_code 4 = .ok (.aload_n 0, 1) := by decide +kernel
theorem d2_1_5 : decode prog_2_method_1_code 5 = .ok (.iload_n 1, 1) := by decide +kernel
theorem d2_1_6 : decode prog_2_method_1_code 6 = .ok (.putfield 7, 3) := by decide +kernel
theorem d2_1_9 : decode prog_2_method_1_code 9 = .ok (.return_, 1) := by decide +kernel
theorem d9_1_0 : decode prog_9_method_1_code 0 = .ok (.aload_n 0, 1) := by decide +kernel
theorem d9_1_1 : decode prog_9_method_1_code 1 = .ok (.invokespecial 3, 3) := by decide +kernel
theorem d9_1_4 : decode prog_9_method_1_code 4 = .ok (.aload_n 0, 1) := by decide +kernel
theorem d9_1_5 : decode prog_9_method_1_code 5 = .ok (.new 9, 3) := by decide +kernel
theorem d9_1_8 : decode prog_9_method_1_code 8 = .ok (.dup, 1) := by decide +kernel
theorem d9_1_9 : decode prog_9_method_1_code 9 = .ok (.invokespecial 11, 3) := by decide +kernel
theorem d9_1_12 : decode prog_9_method_1_code 12 = .ok (.putfield 12, 3) := by decide +kernel
theorem d9_1_15 : decode prog_9_method_1_code 15 = .ok (.aload_n 0, 1) := by decide +kernel
theorem d9_1_16 : decode prog_9_method_1_code 16 = .ok (.aload_n 1, 1) := by decide +kernel
theorem d9_1_17 : decode prog_9_method_1_code 17 = .ok (.putfield 18, 3) := by decide +kernel
theorem d9_1_20 : decode prog_9_method_1_code 20 = .ok (.aload_n 0, 1) := by decide +kernel
theorem d9_1_21 : decode prog_9_method_1_code 21 = .ok (.iload_n 2, 1) := by decide +kernel
theorem d9_1_22 : decode prog_9_method_1_code 22 = .ok (.putfield 22, 3) := by decide +kernel
theorem d9_1_25 : decode prog_9_method_1_code 25 = .ok (.aload_n 0, 1) := by decide +kernel
theorem d9_1_26 : decode prog_9_method_1_code 26 = .ok (.iload_n 3, 1) := by decide +kernel
theorem d9_1_27 : decode prog_9_method_1_code 27 = .ok (.putfield 26, 3) := by decide +kernel
theorem d9_1_30 : decode prog_9_method_1_code 30 = .ok (.aload_n 0, 1) := by decide +kernel
theorem d9_1_31 : decode prog_9_method_1_code 31 = .ok (.iload_n 3, 1) := by decide +kernel
theorem d9_1_32 : decode prog_9_method_1_code 32 = .ok (.iconst (-1), 1) := by decide +kernel
theorem d9_1_33 : decode prog_9_method_1_code 33 = .ok (.if_icmp .ne 10, 3) := by decide +kernel
theorem d9_1_36 : decode prog_9_method_1_code 36 = .ok (.bipush 41, 2) := by decide +kernel
theorem d9_1_38 : decode prog_9_method_1_code 38 = .ok (.newarray .long, 2) := by decide +kernel
theorem d9_1_40 : decode prog_9_method_1_code 40 = .ok (.goto 4, 3) := by decide +kernel
theorem d9_1_43 : decode prog_9_method_1_code 43 = .ok (.aconst_null, 1) := by decide +kernel
theorem d9_1_44 : decode prog_9_method_1_code 44 = .ok (.putfield 29, 3) := by decide +kernel
theorem d9_1_47 : decode prog_9_method_1_code 47 = .ok (.return_, 1) := by decide +kernel
theorem d8_5_0 : decode prog_8_method_5_code 0 = .ok (.aload_n 0, 1) := by decide +kernel
theorem d8_5_1 : decode prog_8_method_5_code 1 = .ok (.getfield 18, 3) := by decide +kernel
theorem d8_5_4 : decode prog_8_method_5_code 4 = .ok (.aload_n 0, 1) := by decide +kernel
theorem d8_5_5 : decode prog_8_method_5_code 5 = .ok (.getfield 47, 3) := by decide +kernel
theorem d8_5_8 : decode prog_8_method_5_code 8 = .ok (.aaload, 1) := by decide +kernel
theorem d8_5_9 : decode prog_8_method_5_code 9 = .ok (.getfield 50, 3) := by decide +kernel
theorem d8_5_12 : decode prog_8_method_5_code 12 = .ok (.areturn, 1) := by decide +kernel
theorem d3_3_0 : decode prog_3_method_3_code 0 = .ok (.aload_n 0, 1) := by decide +kernel
theorem d3_3_1 : decode prog_3_method_3_code 1 = .ok (.getfield 10, 3) := by decide +kernel
theorem d3_3_4 : decode prog_3_method_3_code 4 = .ok (.aload_n 1, 1) := by decide +kernel
theorem d3_3_5 : decode prog_3_method_3_code 5 = .ok (.invokevirtual 27, 3) := by decide +kernel
theorem d3_3_8 : decode prog_3_method_3_code 8 = .ok (.pop, 1) := by decide +kernel
theorem d3_3_9 : decode prog_3_method_3_code 9 = .ok (.return_, 1) := by decide +kernel
theorem d3_5_0 : decode prog_3_method_5_code 0 = .ok (.aload_n 0, 1) := by decide +kernel
theorem d3_5_1 : decode prog_3_method_5_code 1 = .ok (.getfield 10, 3) := by decide +kernel
theorem d3_5_4 : decode prog_3_method_5_code 4 = .ok (.invokevirtual 31, 3) := by decide +kernel
theorem d3_5_7 : decode prog_3_method_5_code 7 = .ok (.iconst 1, 1) := by decide +kernel
theorem d3_5_8 : decode prog_3_method_5_code 8 = .ok (.isub, 1) := by decide +kernel
theorem d3_5_9 : decode prog_3_method_5_code 9 = .ok (.istore_n 3, 1) := by decide +kernel
theorem d3_5_10 : decode prog_3_method_5_code 10 = .ok (.iload_n 3, 1) := by decide +kernel
theorem d3_5_11 : decode prog_3_method_5_code 11 = .ok (.ifCond .lt 32, 3) := by decide +kernel
theorem d3_5_14 : decode prog_3_method_5_code 14 = .ok (.aload_n 0, 1) := by decide +kernel
theorem d3_5_15 : decode prog_3_method_5_code 15 = .ok (.getfield 10, 3) := by decide +kernel
theorem d3_5_18 : decode prog_3_method_5_code 18 = .ok (.iload_n 3, 1) := by decide +kernel
theorem d3_5_19 : decode prog_3_method_5_code 19 = .ok (.new 41, 3) := by decide +kernel
theorem d3_5_22 : decode prog_3_method_5_code 22 = .ok (.dup, 1) := by decide +kernel
theorem d3_5_23 : decode prog_3_method_5_code 23 = .ok (.aload_n 0, 1) := by decide +kernel
theorem d3_5_24 : decode prog_3_method_5_code 24 = .ok (.getfield 10, 3) := by decide +kernel
theorem d3_5_27 : decode prog_3_method_5_code 27 = .ok (.iload_n 3, 1) := by decide +kernel
theorem d3_5_28 : decode prog_3_method_5_code 28 = .ok (.invokevirtual 35, 3) := by decide +kernel
theorem d3_5_31 : decode prog_3_method_5_code 31 = .ok (.checkcast 2, 3) := by decide +kernel
theorem d3_5_34 : decode prog_3_method_5_code 34 = .ok (.iload_n 1, 1) := by decide +kernel
theorem d3_5_35 : decode prog_3_method_5_code 35 = .ok (.iload_n 2, 1) := by decide +kernel
theorem d3_5_36 : decode prog_3_method_5_code 36 = .ok (.invokespecial 43, 3) := by decide +kernel
theorem d3_5_39 : decode prog_3_method_5_code 39 = .ok (.invokevirtual 46, 3) := by decide +kernel
theorem d3_5_42 : decode prog_3_method_5_code 42 = .ok (.pop, 1) := by decide +kernel
theorem d3_5_43 : decode prog_3_method_5_code 43 = .ok (.return_, 1) := by decide +kernel
