theorem d36_11_0 : decode prog_36_method_11_code 0 = .ok (.iload_n 0, 1) := by decide +kernel
theorem d36_11_1 : decode prog_36_method_11_code 1 = .ok (.ifCond .lt 8, 3) := by decide +kernel
theorem d36_11_4 : decode prog_36_method_11_code 4 = .ok (.iload_n 0, 1) := by decide +kernel
theorem d36_11_5 : decode prog_36_method_11_code 5 = .ok (.iload_n 1, 1) := by decide +kernel
theorem d36_11_6 : decode prog_36_method_11_code 6 = .ok (.if_icmp .lt 10, 3) := by decide +kernel
theorem d36_11_9 : decode prog_36_method_11_code 9 = .ok (.aload_n 2, 1) := by decide +kernel
theorem d36_11_10 : decode prog_36_method_11_code 10 = .ok (.iload_n 0, 1) := by decide +kernel
theorem d36_11_11 : decode prog_36_method_11_code 11 = .ok (.iload_n 1, 1) := by decide +kernel
theorem d36_11_12 : decode prog_36_method_11_code 12 = .ok (.invokestatic 95, 3) := by decide +kernel
theorem d36_11_15 : decode prog_36_method_11_code 15 = .ok (.athrow, 1) := by decide +kernel
theorem d36_11_16 : decode prog_36_method_11_code 16 = .ok (.iload_n 0, 1) := by decide +kernel
theorem d36_11_17 : decode prog_36_method_11_code 17 = .ok (.ireturn, 1) := by decide +kernel
theorem d32_17_0 : decode prog_32_method_17_code 0 = .ok (.iload_n 0, 1) := by decide +kernel
theorem d32_17_1 : decode prog_32_method_17_code 1 = .ok (.iload_n 1, 1) := by decide +kernel
theorem d32_17_2 : decode prog_32_method_17_code 2 = .ok (.aconst_null, 1) := by decide +kernel
theorem d32_17_3 : decode prog_32_method_17_code 3 = .ok (.invokestatic 105, 3) := by decide +kernel
theorem d32_17_6 : decode prog_32_method_17_code 6 = .ok (.ireturn, 1) := by decide +kernel
theorem d28_18_0 : decode prog_28_method_18_code 0 = .ok (.aload_n 0, 1) := by decide +kernel
theorem d28_18_1 : decode prog_28_method_18_code 1 = .ok (.getfield 9, 3) := by decide +kernel
theorem d28_18_4 : decode prog_28_method_18_code 4 = .ok (.iload_n 1, 1) := by decide +kernel
theorem d28_18_5 : decode prog_28_method_18_code 5 = .ok (.aaload, 1) := by decide +kernel
theorem d28_18_6 : decode prog_28_method_18_code 6 = .ok (.areturn, 1) := by decide +kernel
theorem d28_20_0 : decode prog_28_method_20_code 0 = .ok (.iload_n 1, 1) := by decide +kernel
theorem d28_20_1 : decode prog_28_method_20_code 1 = .ok (.aload_n 0, 1) := by decide +kernel
theorem d28_20_2 : decode prog_28_method_20_code 2 = .ok (.getfield 48, 3) := by decide +kernel
theorem d28_20_5 : decode prog_28_method_20_code 5 = .ok (.invokestatic 118, 3) := by decide +kernel
theorem d28_20_8 : decode prog_28_method_20_code 8 = .ok (.pop, 1) := by decide +kernel
theorem d28_20_9 : decode prog_28_method_20_code 9 = .ok (.aload_n 0, 1) := by decide +kernel
theorem d28_20_10 : decode prog_28_method_20_code 10 = .ok (.iload_n 1, 1) := by decide +kernel
theorem d28_20_11 : decode prog_28_method_20_code 11 = .ok (.invokevirtual 123, 3) := by decide +kernel
theorem d28_20_14 : decode prog_28_method_20_code 14 = .ok (.areturn, 1) := by decide +kernel
theorem d28_39_0 : decode prog_28_method_39_code 0 = .ok (.aload_n 0, 1) := by decide +kernel
theorem d28_39_1 : decode prog_28_method_39_code 1 = .ok (.dup, 1) := by decide +kernel
theorem d28_39_2 : decode prog_28_method_39_code 2 = .ok (.getfield 63, 3) := by decide +kernel
theorem d28_39_5 : decode prog_28_method_39_code 5 = .ok (.iconst 1, 1) := by decide +kernel
theorem d28_39_6 : decode prog_28_method_39_code 6 = .ok (.iadd, 1) := by decide +kernel
theorem d28_39_7 : decode prog_28_method_39_code 7 = .ok (.putfield 63, 3) := by decide +kernel
theorem d28_39_10 : decode prog_28_method_39_code 10 = .ok (.aload_n 0, 1) := by decide +kernel
theorem d28_39_11 : decode prog_28_method_39_code 11 = .ok (.getfield 48, 3) := by decide +kernel
theorem d28_39_14 : decode prog_28_method_39_code 14 = .ok (.iconst 1, 1) := by decide +kernel
theorem d28_39_15 : decode prog_28_method_39_code 15 = .ok (.isub, 1) := by decide +kernel
theorem d28_39_16 : decode prog_28_method_39_code 16 = .ok (.dup, 1) := by decide +kernel
theorem d28_39_17 : decode prog_28_method_39_code 17 = .ok (.istore_n 3, 1) := by decide +kernel
theorem d28_39_18 : decode prog_28_method_39_code 18 = .ok (.iload_n 2, 1) := by decide +kernel
theorem d28_39_19 : decode prog_28_method_39_code 19 = .ok (.if_icmp .le 15, 3) := by decide +kernel
theorem d28_39_22 : decode prog_28_method_39_code 22 = .ok (.aload_n 1, 1) := by decide +kernel
theorem d28_39_23 : decode prog_28_method_39_code 23 = .ok (.iload_n 2, 1) := by decide +kernel
theorem d28_39_24 : decode prog_28_method_39_code 24 = .ok (.iconst 1, 1) := by decide +kernel
theorem d28_39_25 : decode prog_28_method_39_code 25 = .ok (.iadd, 1) := by decide +kernel
theorem d28_39_26 : decode prog_28_method_39_code 26 = .ok (.aload_n 1, 1) := by decide +kernel
theorem d28_39_27 : decode prog_28_method_39_code 27 = .ok (.iload_n 2, 1) := by decide +kernel
theorem d28_39_28 : decode prog_28_method_39_code 28 = .ok (.iload_n 3, 1) := by decide +kernel
theorem d28_39_29 : decode prog_28_method_39_code 29 = .ok (.iload_n 2, 1) := by decide +kernel
theorem d28_39_30 : decode prog_28_method_39_code 30 = .ok (.isub, 1) := by decide +kernel
theorem d28_39_31 : decode prog_28_method_39_code 31 = .ok (.invokestatic 112, 3) := by decide +kernel
theorem d28_39_34 : decode prog_28_method_39_code 34 = .ok (.aload_n 1, 1) := by decide +kernel
theorem d28_39_35 : decode prog_28_method_39_code 35 = .ok (.aload_n 0, 1) := by decide +kernel
theorem d28_39_36 : decode prog_28_method_39_code 36 = .ok (.iload_n 3, 1) := by decide +kernel
theorem d28_39_37 : decode prog_28_method_39_code 37 = .ok (.dup_x1, 1) := by decide +kernel
theorem d28_39_38 : decode prog_28_method_39_code 38 = .ok (.putfield 48, 3) := by decide +kernel
theorem d28_39_41 : decode prog_28_method_39_code 41 = .ok (.aconst_null, 1) := by decide +kernel
theorem d28_39_42 : decode prog_28_method_39_code 42 = .ok (.aastore, 1) := by decide +kernel
theorem d28_39_43 : decode prog_28_method_39_code 43 = .ok (.return_, 1) := by decide +kernel
theorem d28_29_0 : decode prog_28_method_29_code 0 = .ok (.iload_n 1, 1) := by decide +kernel
theorem d28_29_1 : decode prog_28_method_29_code 1 = .ok (.aload_n 0, 1) := by decide +kernel
theorem d28_29_2 : decode prog_28_method_29_code 2 = .ok (.getfield 48, 3) := by decide +kernel
theorem d28_29_5 : decode prog_28_method_29_code 5 = .ok (.invokestatic 118, 3) := by decide +kernel
theorem d28_29_8 : decode prog_28_method_29_code 8 = .ok (.pop, 1) := by decide +kernel
theorem d28_29_9 : decode prog_28_method_29_code 9 = .ok (.aload_n 0, 1) := by decide +kernel
theorem d28_29_10 : decode prog_28_method_29_code 10 = .ok (.getfield 9, 3) := by decide +kernel
theorem d28_29_13 : decode prog_28_method_29_code 13 = .ok (.astore_n 2, 1) := by decide +kernel
theorem d28_29_14 : decode prog_28_method_29_code 14 = .ok (.aload_n 2, 1) := by decide +kernel
theorem d28_29_15 : decode prog_28_method_29_code 15 = .ok (.iload_n 1, 1) := by decide +kernel
theorem d28_29_16 : decode prog_28_method_29_code 16 = .ok (.aaload, 1) := by decide +kernel
theorem d28_29_17 : decode prog_28_method_29_code 17 = .ok (.astore_n 3, 1) := by decide +kernel
theorem d28_29_18 : decode prog_28_method_29_code 18 = .ok (.aload_n 0, 1) := by decide +kernel
theorem d28_29_19 : decode prog_28_method_29_code 19 = .ok (.aload_n 2, 1) := by decide +kernel
theorem d28_29_20 : decode prog_28_method_29_code 20 = .ok (.iload_n 1, 1) := by decide +kernel
theorem d28_29_21 : decode prog_28_method_29_code 21 = .ok (.invokevirtual 144, 3) := by decide +kernel
theorem d28_29_24 : decode prog_28_method_29_code 24 = .ok (.aload_n 3, 1) := by decide +kernel
theorem d28_29_25 : decode prog_28_method_29_code 25 = .ok (.areturn, 1) := by decide +kernel
theorem d28_23_0 : decode prog_28_method_23_code 0 = .ok (.iload_n 1, 1) := by decide +kernel
theorem d28_23_1 : decode prog_28_method_23_code 1 = .ok (.aload_n 0, 1) := by decide +kernel
theorem d28_23_2 : decode prog_28_method_23_code 2 = .ok (.getfield 48, 3) := by decide +kernel
theorem d28_23_5 : decode prog_28_method_23_code 5 = .ok (.invokestatic 118, 3) := by decide +kernel
theorem d28_23_8 : decode prog_28_method_23_code 8 = .ok (.pop, 1) := by decide +kernel
theorem d28_23_9 : decode prog_28_method_23_code 9 = .ok (.aload_n 0, 1) := by decide +kernel
theorem d28_23_10 : decode prog_28_method_23_code 10 = .ok (.iload_n 1, 1) := by decide +kernel
theorem d28_23_11 : decode prog_28_method_23_code 11 = .ok (.invokevirtual 123, 3) := by decide +kernel
theorem d28_23_14 : decode prog_28_method_23_code 14 = .ok (.astore_n 3, 1) := by decide +kernel
theorem d28_23_15 : decode prog_28_method_23_code 15 = .ok (.aload_n 0, 1) := by decide +kernel
theorem d28_23_16 : decode prog_28_method_23_code 16 = .ok (.getfield 9, 3) := by decide +kernel
theorem d28_23_19 : decode prog_28_method_23_code 19 = .ok (.iload_n 1, 1) := by decide +kernel
theorem d28_23_20 : decode prog_28_method_23_code 20 = .ok (.aload_n 2, 1) := by decide +kernel
theorem d28_23_21 : decode prog_28_method_23_code 21 = .ok (.aastore, 1) := by decide +kernel
theorem d28_23_22 : decode prog_28_method_23_code 22 = .ok (.aload_n 3, 1) := by decide +kernel
theorem d28_23_23 : decode prog_28_method_23_code 23 = .ok (.areturn, 1) := by decide +kernel
