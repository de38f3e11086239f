theorem d8_8_0 : decode prog_8_method_8_code 0 = .ok (.aload_n 0, 1) := by decide +kernel
theorem d8_8_1 : decode prog_8_method_8_code 1 = .ok (.getfield 47, 3) := by decide +kernel
theorem d8_8_4 : decode prog_8_method_8_code 4 = .ok (.bipush 6, 2) := by decide +kernel
theorem d8_8_6 : decode prog_8_method_8_code 6 = .ok (.if_icmp .lt 10, 3) := by decide +kernel
theorem d8_8_9 : decode prog_8_method_8_code 9 = .ok (.aload_n 0, 1) := by decide +kernel
theorem d8_8_10 : decode prog_8_method_8_code 10 = .ok (.bipush 8, 2) := by decide +kernel
theorem d8_8_12 : decode prog_8_method_8_code 12 = .ok (.putfield 33, 3) := by decide +kernel
theorem d8_8_15 : decode prog_8_method_8_code 15 = .ok (.return_, 1) := by decide +kernel
theorem d8_8_16 : decode prog_8_method_8_code 16 = .ok (.aload_n 0, 1) := by decide +kernel
theorem d8_8_17 : decode prog_8_method_8_code 17 = .ok (.dup, 1) := by decide +kernel
theorem d8_8_18 : decode prog_8_method_8_code 18 = .ok (.getfield 47, 3) := by decide +kernel
theorem d8_8_21 : decode prog_8_method_8_code 21 = .ok (.iconst 1, 1) := by decide +kernel
theorem d8_8_22 : decode prog_8_method_8_code 22 = .ok (.iadd, 1) := by decide +kernel
theorem d8_8_23 : decode prog_8_method_8_code 23 = .ok (.putfield 47, 3) := by decide +kernel
theorem d8_8_26 : decode prog_8_method_8_code 26 = .ok (.aload_n 0, 1) := by decide +kernel
theorem d8_8_27 : decode prog_8_method_8_code 27 = .ok (.getfield 18, 3) := by decide +kernel
theorem d8_8_30 : decode prog_8_method_8_code 30 = .ok (.aload_n 0, 1) := by decide +kernel
theorem d8_8_31 : decode prog_8_method_8_code 31 = .ok (.getfield 47, 3) := by decide +kernel
theorem d8_8_34 : decode prog_8_method_8_code 34 = .ok (.new 9, 3) := by decide +kernel
theorem d8_8_37 : decode prog_8_method_8_code 37 = .ok (.dup, 1) := by decide +kernel
theorem d8_8_38 : decode prog_8_method_8_code 38 = .ok (.invokespecial 11, 3) := by decide +kernel
theorem d8_8_41 : decode prog_8_method_8_code 41 = .ok (.aastore, 1) := by decide +kernel
theorem d8_8_42 : decode prog_8_method_8_code 42 = .ok (.return_, 1) := by decide +kernel
theorem d8_10_0 : decode prog_8_method_10_code 0 = .ok (.aload_n 0, 1) := by decide +kernel
theorem d8_10_1 : decode prog_8_method_10_code 1 = .ok (.invokevirtual 78, 3) := by decide +kernel
theorem d8_10_4 : decode prog_8_method_10_code 4 = .ok (.invokevirtual 54, 3) := by decide +kernel
theorem d8_10_7 : decode prog_8_method_10_code 7 = .ok (.ifCond .eq 11, 3) := by decide +kernel
theorem d8_10_10 : decode prog_8_method_10_code 10 = .ok (.aload_n 0, 1) := by decide +kernel
theorem d8_10_11 : decode prog_8_method_10_code 11 = .ok (.iconst 1, 1) := by decide +kernel
theorem d8_10_12 : decode prog_8_method_10_code 12 = .ok (.putfield 33, 3) := by decide +kernel
theorem d8_10_15 : decode prog_8_method_10_code 15 = .ok (.goto 15, 3) := by decide +kernel
theorem d8_10_18 : decode prog_8_method_10_code 18 = .ok (.aload_n 0, 1) := by decide +kernel
theorem d8_10_19 : decode prog_8_method_10_code 19 = .ok (.getfield 18, 3) := by decide +kernel
theorem d8_10_22 : decode prog_8_method_10_code 22 = .ok (.aload_n 0, 1) := by decide +kernel
theorem d8_10_23 : decode prog_8_method_10_code 23 = .ok (.getfield 47, 3) := by decide +kernel
theorem d8_10_26 : decode prog_8_method_10_code 26 = .ok (.aaload, 1) := by decide +kernel
theorem d8_10_27 : decode prog_8_method_10_code 27 = .ok (.invokevirtual 104, 3) := by decide +kernel
theorem d8_10_30 : decode prog_8_method_10_code 30 = .ok (.return_, 1) := by decide +kernel
theorem d8_9_0 : decode prog_8_method_9_code 0 = .ok (.aload_n 0, 1) := by decide +kernel
theorem d8_9_1 : decode prog_8_method_9_code 1 = .ok (.getfield 47, 3) := by decide +kernel
theorem d8_9_4 : decode prog_8_method_9_code 4 = .ok (.ifCond .ne 11, 3) := by decide +kernel
theorem d8_9_7 : decode prog_8_method_9_code 7 = .ok (.aload_n 0, 1) := by decide +kernel
theorem d8_9_8 : decode prog_8_method_9_code 8 = .ok (.iconst 2, 1) := by decide +kernel
theorem d8_9_9 : decode prog_8_method_9_code 9 = .ok (.putfield 33, 3) := by decide +kernel
theorem d8_9_12 : decode prog_8_method_9_code 12 = .ok (.goto 49, 3) := by decide +kernel
theorem d8_9_15 : decode prog_8_method_9_code 15 = .ok (.aload_n 0, 1) := by decide +kernel
theorem d8_9_16 : decode prog_8_method_9_code 16 = .ok (.invokevirtual 78, 3) := by decide +kernel
theorem d8_9_19 : decode prog_8_method_9_code 19 = .ok (.invokevirtual 54, 3) := by decide +kernel
theorem d8_9_22 : decode prog_8_method_9_code 22 = .ok (.ifCond .eq 11, 3) := by decide +kernel
theorem d8_9_25 : decode prog_8_method_9_code 25 = .ok (.aload_n 0, 1) := by decide +kernel
theorem d8_9_26 : decode prog_8_method_9_code 26 = .ok (.iconst 1, 1) := by decide +kernel
theorem d8_9_27 : decode prog_8_method_9_code 27 = .ok (.putfield 33, 3) := by decide +kernel
theorem d8_9_30 : decode prog_8_method_9_code 30 = .ok (.goto 31, 3) := by decide +kernel
theorem d8_9_33 : decode prog_8_method_9_code 33 = .ok (.aload_n 0, 1) := by decide +kernel
theorem d8_9_34 : decode prog_8_method_9_code 34 = .ok (.getfield 18, 3) := by decide +kernel
theorem d8_9_37 : decode prog_8_method_9_code 37 = .ok (.aload_n 0, 1) := by decide +kernel
theorem d8_9_38 : decode prog_8_method_9_code 38 = .ok (.getfield 47, 3) := by decide +kernel
theorem d8_9_41 : decode prog_8_method_9_code 41 = .ok (.aaload, 1) := by decide +kernel
theorem d8_9_42 : decode prog_8_method_9_code 42 = .ok (.astore_n 1, 1) := by decide +kernel
theorem d8_9_43 : decode prog_8_method_9_code 43 = .ok (.aload_n 0, 1) := by decide +kernel
theorem d8_9_44 : decode prog_8_method_9_code 44 = .ok (.dup, 1) := by decide +kernel
theorem d8_9_45 : decode prog_8_method_9_code 45 = .ok (.getfield 47, 3) := by decide +kernel
theorem d8_9_48 : decode prog_8_method_9_code 48 = .ok (.iconst 1, 1) := by decide +kernel
theorem d8_9_49 : decode prog_8_method_9_code 49 = .ok (.isub, 1) := by decide +kernel
theorem d8_9_50 : decode prog_8_method_9_code 50 = .ok (.putfield 47, 3) := by decide +kernel
theorem d8_9_53 : decode prog_8_method_9_code 53 = .ok (.aload_n 0, 1) := by decide +kernel
theorem d8_9_54 : decode prog_8_method_9_code 54 = .ok (.invokevirtual 78, 3) := by decide +kernel
theorem d8_9_57 : decode prog_8_method_9_code 57 = .ok (.aload_n 1, 1) := by decide +kernel
theorem d8_9_58 : decode prog_8_method_9_code 58 = .ok (.invokevirtual 87, 3) := by decide +kernel
theorem d8_9_61 : decode prog_8_method_9_code 61 = .ok (.return_, 1) := by decide +kernel
