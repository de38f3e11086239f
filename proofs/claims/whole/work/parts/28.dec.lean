theorem d14_9_0 : decode prog_14_method_9_code 0 = .ok (.iconst 0, 1) := by decide +kernel
theorem d14_9_1 : decode prog_14_method_9_code 1 = .ok (.istore_n 1, 1) := by decide +kernel
theorem d14_9_2 : decode prog_14_method_9_code 2 = .ok (.iload_n 1, 1) := by decide +kernel
theorem d14_9_3 : decode prog_14_method_9_code 3 = .ok (.sipush 128, 3) := by decide +kernel
theorem d14_9_6 : decode prog_14_method_9_code 6 = .ok (.if_icmp .ge 39, 3) := by decide +kernel
theorem d14_9_9 : decode prog_14_method_9_code 9 = .ok (.aload_n 0, 1) := by decide +kernel
theorem d14_9_10 : decode prog_14_method_9_code 10 = .ok (.getfield 20, 3) := by decide +kernel
theorem d14_9_13 : decode prog_14_method_9_code 13 = .ok (.iload_n 1, 1) := by decide +kernel
theorem d14_9_14 : decode prog_14_method_9_code 14 = .ok (.aload_n 0, 1) := by decide +kernel
theorem d14_9_15 : decode prog_14_method_9_code 15 = .ok (.getfield 20, 3) := by decide +kernel
theorem d14_9_18 : decode prog_14_method_9_code 18 = .ok (.iload_n 1, 1) := by decide +kernel
theorem d14_9_19 : decode prog_14_method_9_code 19 = .ok (.iaload, 1) := by decide +kernel
theorem d14_9_20 : decode prog_14_method_9_code 20 = .ok (.bipush 99, 2) := by decide +kernel
theorem d14_9_22 : decode prog_14_method_9_code 22 = .ok (.if_icmp .ne 10, 3) := by decide +kernel
theorem d14_9_25 : decode prog_14_method_9_code 25 = .ok (.aload_n 0, 1) := by decide +kernel
theorem d14_9_26 : decode prog_14_method_9_code 26 = .ok (.getfield 114, 3) := by decide +kernel
theorem d14_9_29 : decode prog_14_method_9_code 29 = .ok (.goto 9, 3) := by decide +kernel
theorem d14_9_32 : decode prog_14_method_9_code 32 = .ok (.aload_n 0, 1) := by decide +kernel
theorem d14_9_33 : decode prog_14_method_9_code 33 = .ok (.getfield 20, 3) := by decide +kernel
theorem d14_9_36 : decode prog_14_method_9_code 36 = .ok (.iload_n 1, 1) := by decide +kernel
theorem d14_9_37 : decode prog_14_method_9_code 37 = .ok (.iaload, 1) := by decide +kernel
theorem d14_9_38 : decode prog_14_method_9_code 38 = .ok (.iastore, 1) := by decide +kernel
theorem d14_9_39 : decode prog_14_method_9_code 39 = .ok (.iinc 1 1, 3) := by decide +kernel
theorem d14_9_42 : decode prog_14_method_9_code 42 = .ok (.goto (-40), 3) := by decide +kernel
theorem d14_9_45 : decode prog_14_method_9_code 45 = .ok (.aload_n 0, 1) := by decide +kernel
theorem d14_9_46 : decode prog_14_method_9_code 46 = .ok (.getfield 26, 3) := by decide +kernel
theorem d14_9_49 : decode prog_14_method_9_code 49 = .ok (.aload_n 0, 1) := by decide +kernel
theorem d14_9_50 : decode prog_14_method_9_code 50 = .ok (.getfield 114, 3) := by decide +kernel
theorem d14_9_53 : decode prog_14_method_9_code 53 = .ok (.iconst 0, 1) := by decide +kernel
theorem d14_9_54 : decode prog_14_method_9_code 54 = .ok (.iastore, 1) := by decide +kernel
theorem d14_9_55 : decode prog_14_method_9_code 55 = .ok (.aload_n 0, 1) := by decide +kernel
theorem d14_9_56 : decode prog_14_method_9_code 56 = .ok (.dup, 1) := by decide +kernel
theorem d14_9_57 : decode prog_14_method_9_code 57 = .ok (.getfield 114, 3) := by decide +kernel
theorem d14_9_60 : decode prog_14_method_9_code 60 = .ok (.iconst 1, 1) := by decide +kernel
theorem d14_9_61 : decode prog_14_method_9_code 61 = .ok (.iadd, 1) := by decide +kernel
theorem d14_9_62 : decode prog_14_method_9_code 62 = .ok (.putfield 114, 3) := by decide +kernel
theorem d14_9_65 : decode prog_14_method_9_code 65 = .ok (.return_, 1) := by decide +kernel
