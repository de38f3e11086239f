theorem d6_2_0 : decode prog_6_method_2_code 0 = .ok (.aload_n 1, 1) := by decide +kernel
theorem d6_2_1 : decode prog_6_method_2_code 1 = .ok (.getfield 33, 3) := by decide +kernel
theorem d6_2_4 : decode prog_6_method_2_code 4 = .ok (.astore_n 2, 1) := by decide +kernel
theorem d6_2_5 : decode prog_6_method_2_code 5 = .ok (.aload_n 2, 1) := by decide +kernel
theorem d6_2_6 : decode prog_6_method_2_code 6 = .ok (.ifnull 29, 3) := by decide +kernel
theorem d6_2_9 : decode prog_6_method_2_code 9 = .ok (.new 20, 3) := by decide +kernel
theorem d6_2_12 : decode prog_6_method_2_code 12 = .ok (.dup, 1) := by decide +kernel
theorem d6_2_13 : decode prog_6_method_2_code 13 = .ok (.invokespecial 38, 3) := by decide +kernel
theorem d6_2_16 : decode prog_6_method_2_code 16 = .ok (.astore_n 3, 1) := by decide +kernel
theorem d6_2_17 : decode prog_6_method_2_code 17 = .ok (.aload_n 3, 1) := by decide +kernel
theorem d6_2_18 : decode prog_6_method_2_code 18 = .ok (.aload_n 0, 1) := by decide +kernel
theorem d6_2_19 : decode prog_6_method_2_code 19 = .ok (.getfield 25, 3) := by decide +kernel
theorem d6_2_22 : decode prog_6_method_2_code 22 = .ok (.aload_n 2, 1) := by decide +kernel
theorem d6_2_23 : decode prog_6_method_2_code 23 = .ok (.invokevirtual 39, 3) := by decide +kernel
theorem d6_2_26 : decode prog_6_method_2_code 26 = .ok (.ifCond .eq 9, 3) := by decide +kernel
theorem d6_2_29 : decode prog_6_method_2_code 29 = .ok (.aload_n 0, 1) := by decide +kernel
theorem d6_2_30 : decode prog_6_method_2_code 30 = .ok (.aload_n 3, 1) := by decide +kernel
theorem d6_2_31 : decode prog_6_method_2_code 31 = .ok (.putfield 25, 3) := by decide +kernel
theorem d6_2_34 : decode prog_6_method_2_code 34 = .ok (.return_, 1) := by decide +kernel
theorem d6_2_35 : decode prog_6_method_2_code 35 = .ok (.aload_n 0, 1) := by decide +kernel
theorem d6_2_36 : decode prog_6_method_2_code 36 = .ok (.iconst 0, 1) := by decide +kernel
theorem d6_2_37 : decode prog_6_method_2_code 37 = .ok (.putfield 29, 3) := by decide +kernel
theorem d6_2_40 : decode prog_6_method_2_code 40 = .ok (.aload_n 0, 1) := by decide +kernel
theorem d6_2_41 : decode prog_6_method_2_code 41 = .ok (.getfield 10, 3) := by decide +kernel
theorem d6_2_44 : decode prog_6_method_2_code 44 = .ok (.aload_n 0, 1) := by decide +kernel
theorem d6_2_45 : decode prog_6_method_2_code 45 = .ok (.getfield 25, 3) := by decide +kernel
theorem d6_2_48 : decode prog_6_method_2_code 48 = .ok (.invokevirtual 43, 3) := by decide +kernel
theorem d6_2_51 : decode prog_6_method_2_code 51 = .ok (.pop, 1) := by decide +kernel
theorem d6_2_52 : decode prog_6_method_2_code 52 = .ok (.aload_n 2, 1) := by decide +kernel
theorem d6_2_53 : decode prog_6_method_2_code 53 = .ok (.ifnull 11, 3) := by decide +kernel
theorem d6_2_56 : decode prog_6_method_2_code 56 = .ok (.aload_n 0, 1) := by decide +kernel
theorem d6_2_57 : decode prog_6_method_2_code 57 = .ok (.aload_n 2, 1) := by decide +kernel
theorem d6_2_58 : decode prog_6_method_2_code 58 = .ok (.putfield 25, 3) := by decide +kernel
theorem d6_2_61 : decode prog_6_method_2_code 61 = .ok (.goto 19, 3) := by decide +kernel
theorem d6_2_64 : decode prog_6_method_2_code 64 = .ok (.aload_n 0, 1) := by decide +kernel
theorem d6_2_65 : decode prog_6_method_2_code 65 = .ok (.getfield 16, 3) := by decide +kernel
theorem d6_2_68 : decode prog_6_method_2_code 68 = .ok (.aload_n 1, 1) := by decide +kernel
theorem d6_2_69 : decode prog_6_method_2_code 69 = .ok (.invokevirtual 43, 3) := by decide +kernel
theorem d6_2_72 : decode prog_6_method_2_code 72 = .ok (.pop, 1) := by decide +kernel
theorem d6_2_73 : decode prog_6_method_2_code 73 = .ok (.aload_n 0, 1) := by decide +kernel
theorem d6_2_74 : decode prog_6_method_2_code 74 = .ok (.invokestatic 19, 3) := by decide +kernel
theorem d6_2_77 : decode prog_6_method_2_code 77 = .ok (.putfield 25, 3) := by decide +kernel
theorem d6_2_80 : decode prog_6_method_2_code 80 = .ok (.return_, 1) := by decide +kernel
