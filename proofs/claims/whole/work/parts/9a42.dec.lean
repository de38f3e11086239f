theorem d4_3_0 : decode prog_4_method_3_code 0 = .ok (.aload_n 0, 1) := by decide +kernel
theorem d4_3_1 : decode prog_4_method_3_code 1 = .ok (.getfield 9, 3) := by decide +kernel
theorem d4_3_4 : decode prog_4_method_3_code 4 = .ok (.lstore_n 1, 1) := by decide +kernel
theorem d4_3_5 : decode prog_4_method_3_code 5 = .ok (.aload_n 0, 1) := by decide +kernel
theorem d4_3_6 : decode prog_4_method_3_code 6 = .ok (.getfield 15, 3) := by decide +kernel
theorem d4_3_9 : decode prog_4_method_3_code 9 = .ok (.lstore_n 3, 1) := by decide +kernel
theorem d4_3_10 : decode prog_4_method_3_code 10 = .ok (.aload_n 0, 1) := by decide +kernel
theorem d4_3_11 : decode prog_4_method_3_code 11 = .ok (.bipush 32, 2) := by decide +kernel
theorem d4_3_13 : decode prog_4_method_3_code 13 = .ok (.bipush 126, 2) := by decide +kernel
theorem d4_3_15 : decode prog_4_method_3_code 15 = .ok (.invokevirtual 18, 3) := by decide +kernel
theorem d4_3_18 : decode prog_4_method_3_code 18 = .ok (.aload_n 0, 1) := by decide +kernel
theorem d4_3_19 : decode prog_4_method_3_code 19 = .ok (.dup, 1) := by decide +kernel
theorem d4_3_20 : decode prog_4_method_3_code 20 = .ok (.getfield 9, 3) := by decide +kernel
theorem d4_3_23 : decode prog_4_method_3_code 23 = .ok (.lload_n 1, 1) := by decide +kernel
theorem d4_3_24 : decode prog_4_method_3_code 24 = .ok (.ldc2_w 22, 3) := by decide +kernel
theorem d4_3_27 : decode prog_4_method_3_code 27 = .ok (.lxor, 1) := by decide +kernel
theorem d4_3_28 : decode prog_4_method_3_code 28 = .ok (.land, 1) := by decide +kernel
theorem d4_3_29 : decode prog_4_method_3_code 29 = .ok (.putfield 9, 3) := by decide +kernel
theorem d4_3_32 : decode prog_4_method_3_code 32 = .ok (.aload_n 0, 1) := by decide +kernel
theorem d4_3_33 : decode prog_4_method_3_code 33 = .ok (.dup, 1) := by decide +kernel
theorem d4_3_34 : decode prog_4_method_3_code 34 = .ok (.getfield 15, 3) := by decide +kernel
theorem d4_3_37 : decode prog_4_method_3_code 37 = .ok (.lload_n 3, 1) := by decide +kernel
theorem d4_3_38 : decode prog_4_method_3_code 38 = .ok (.ldc2_w 22, 3) := by decide +kernel
theorem d4_3_41 : decode prog_4_method_3_code 41 = .ok (.lxor, 1) := by decide +kernel
theorem d4_3_42 : decode prog_4_method_3_code 42 = .ok (.land, 1) := by decide +kernel
theorem d4_3_43 : decode prog_4_method_3_code 43 = .ok (.putfield 15, 3) := by decide +kernel
theorem d4_3_46 : decode prog_4_method_3_code 46 = .ok (.return_, 1) := by decide +kernel
theorem d4_4_0 : decode prog_4_method_4_code 0 = .ok (.iload_n 1, 1) := by decide +kernel
theorem d4_4_1 : decode prog_4_method_4_code 1 = .ok (.bipush 64, 2) := by decide +kernel
theorem d4_4_3 : decode prog_4_method_4_code 3 = .ok (.if_icmp .ge 12, 3) := by decide +kernel
theorem d4_4_6 : decode prog_4_method_4_code 6 = .ok (.aload_n 0, 1) := by decide +kernel
theorem d4_4_7 : decode prog_4_method_4_code 7 = .ok (.getfield 9, 3) := by decide +kernel
theorem d4_4_10 : decode prog_4_method_4_code 10 = .ok (.iload_n 1, 1) := by decide +kernel
theorem d4_4_11 : decode prog_4_method_4_code 11 = .ok (.lshr, 1) := by decide +kernel
theorem d4_4_12 : decode prog_4_method_4_code 12 = .ok (.goto 12, 3) := by decide +kernel
theorem d4_4_15 : decode prog_4_method_4_code 15 = .ok (.aload_n 0, 1) := by decide +kernel
theorem d4_4_16 : decode prog_4_method_4_code 16 = .ok (.getfield 15, 3) := by decide +kernel
theorem d4_4_19 : decode prog_4_method_4_code 19 = .ok (.iload_n 1, 1) := by decide +kernel
theorem d4_4_20 : decode prog_4_method_4_code 20 = .ok (.bipush 64, 2) := by decide +kernel
theorem d4_4_22 : decode prog_4_method_4_code 22 = .ok (.isub, 1) := by decide +kernel
theorem d4_4_23 : decode prog_4_method_4_code 23 = .ok (.lshr, 1) := by decide +kernel
theorem d4_4_24 : decode prog_4_method_4_code 24 = .ok (.lconst 1, 1) := by decide +kernel
theorem d4_4_25 : decode prog_4_method_4_code 25 = .ok (.land, 1) := by decide +kernel
theorem d4_4_26 : decode prog_4_method_4_code 26 = .ok (.lconst 0, 1) := by decide +kernel
theorem d4_4_27 : decode prog_4_method_4_code 27 = .ok (.lcmp, 1) := by decide +kernel
theorem d4_4_28 : decode prog_4_method_4_code 28 = .ok (.ifCond .eq 7, 3) := by decide +kernel
theorem d4_4_31 : decode prog_4_method_4_code 31 = .ok (.iconst 1, 1) := by decide +kernel
theorem d4_4_32 : decode prog_4_method_4_code 32 = .ok (.goto 4, 3) := by decide +kernel
theorem d4_4_35 : decode prog_4_method_4_code 35 = .ok (.iconst 0, 1) := by decide +kernel
theorem d4_4_36 : decode prog_4_method_4_code 36 = .ok (.ireturn, 1) := by decide +kernel
