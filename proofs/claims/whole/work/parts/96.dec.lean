theorem d14_37_0 : decode prog_14_method_37_code 0 = .ok (.aload_n 0, 1) := by decide +kernel
theorem d14_37_1 : decode prog_14_method_37_code 1 = .ok (.getfield 139, 3) := by decide +kernel
theorem d14_37_4 : decode prog_14_method_37_code 4 = .ok (.ifCond .ne 9, 3) := by decide +kernel
theorem d14_37_7 : decode prog_14_method_37_code 7 = .ok (.aload_n 0, 1) := by decide +kernel
theorem d14_37_8 : decode prog_14_method_37_code 8 = .ok (.iconst 2, 1) := by decide +kernel
theorem d14_37_9 : decode prog_14_method_37_code 9 = .ok (.putfield 156, 3) := by decide +kernel
theorem d14_37_12 : decode prog_14_method_37_code 12 = .ok (.return_, 1) := by decide +kernel
theorem d14_37_13 : decode prog_14_method_37_code 13 = .ok (.aload_n 0, 1) := by decide +kernel
theorem d14_37_14 : decode prog_14_method_37_code 14 = .ok (.invokevirtual 142, 3) := by decide +kernel
theorem d14_37_17 : decode prog_14_method_37_code 17 = .ok (.ifCond .eq 9, 3) := by decide +kernel
theorem d14_37_20 : decode prog_14_method_37_code 20 = .ok (.aload_n 0, 1) := by decide +kernel
theorem d14_37_21 : decode prog_14_method_37_code 21 = .ok (.iconst 1, 1) := by decide +kernel
theorem d14_37_22 : decode prog_14_method_37_code 22 = .ok (.putfield 156, 3) := by decide +kernel
theorem d14_37_25 : decode prog_14_method_37_code 25 = .ok (.return_, 1) := by decide +kernel
theorem d14_37_26 : decode prog_14_method_37_code 26 = .ok (.aload_n 0, 1) := by decide +kernel
theorem d14_37_27 : decode prog_14_method_37_code 27 = .ok (.invokevirtual 184, 3) := by decide +kernel
theorem d14_37_30 : decode prog_14_method_37_code 30 = .ok (.aload_n 0, 1) := by decide +kernel
theorem d14_37_31 : decode prog_14_method_37_code 31 = .ok (.invokevirtual 187, 3) := by decide +kernel
theorem d14_37_34 : decode prog_14_method_37_code 34 = .ok (.istore_n 1, 1) := by decide +kernel
theorem d14_37_35 : decode prog_14_method_37_code 35 = .ok (.aload_n 0, 1) := by decide +kernel
theorem d14_37_36 : decode prog_14_method_37_code 36 = .ok (.dup, 1) := by decide +kernel
theorem d14_37_37 : decode prog_14_method_37_code 37 = .ok (.getfield 139, 3) := by decide +kernel
theorem d14_37_40 : decode prog_14_method_37_code 40 = .ok (.iconst 1, 1) := by decide +kernel
theorem d14_37_41 : decode prog_14_method_37_code 41 = .ok (.isub, 1) := by decide +kernel
theorem d14_37_42 : decode prog_14_method_37_code 42 = .ok (.putfield 139, 3) := by decide +kernel
theorem d14_37_45 : decode prog_14_method_37_code 45 = .ok (.aload_n 0, 1) := by decide +kernel
theorem d14_37_46 : decode prog_14_method_37_code 46 = .ok (.iload_n 1, 1) := by decide +kernel
theorem d14_37_47 : decode prog_14_method_37_code 47 = .ok (.invokevirtual 166, 3) := by decide +kernel
theorem d14_37_50 : decode prog_14_method_37_code 50 = .ok (.return_, 1) := by decide +kernel
