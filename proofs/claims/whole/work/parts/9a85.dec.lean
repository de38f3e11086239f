theorem d14_43_0 : decode prog_14_method_43_code 0 = .ok (.aload_n 0, 1) := by decide +kernel
theorem d14_43_1 : decode prog_14_method_43_code 1 = .ok (.getfield 74, 3) := by decide +kernel
theorem d14_43_4 : decode prog_14_method_43_code 4 = .ok (.iload_n 1, 1) := by decide +kernel
theorem d14_43_5 : decode prog_14_method_43_code 5 = .ok (.iconst 1, 1) := by decide +kernel
theorem d14_43_6 : decode prog_14_method_43_code 6 = .ok (.iastore, 1) := by decide +kernel
theorem d14_43_7 : decode prog_14_method_43_code 7 = .ok (.aload_n 0, 1) := by decide +kernel
theorem d14_43_8 : decode prog_14_method_43_code 8 = .ok (.getfield 80, 3) := by decide +kernel
theorem d14_43_11 : decode prog_14_method_43_code 11 = .ok (.iconst 4, 1) := by decide +kernel
theorem d14_43_12 : decode prog_14_method_43_code 12 = .ok (.iload_n 1, 1) := by decide +kernel
theorem d14_43_13 : decode prog_14_method_43_code 13 = .ok (.imul, 1) := by decide +kernel
theorem d14_43_14 : decode prog_14_method_43_code 14 = .ok (.iconst 0, 1) := by decide +kernel
theorem d14_43_15 : decode prog_14_method_43_code 15 = .ok (.iastore, 1) := by decide +kernel
theorem d14_43_16 : decode prog_14_method_43_code 16 = .ok (.return_, 1) := by decide +kernel
theorem d14_44_0 : decode prog_14_method_44_code 0 = .ok (.aload_n 0, 1) := by decide +kernel
theorem d14_44_1 : decode prog_14_method_44_code 1 = .ok (.getfield 80, 3) := by decide +kernel
theorem d14_44_4 : decode prog_14_method_44_code 4 = .ok (.iconst 4, 1) := by decide +kernel
theorem d14_44_5 : decode prog_14_method_44_code 5 = .ok (.iload_n 3, 1) := by decide +kernel
theorem d14_44_6 : decode prog_14_method_44_code 6 = .ok (.imul, 1) := by decide +kernel
theorem d14_44_7 : decode prog_14_method_44_code 7 = .ok (.iload 4, 2) := by decide +kernel
theorem d14_44_9 : decode prog_14_method_44_code 9 = .ok (.iadd, 1) := by decide +kernel
theorem d14_44_10 : decode prog_14_method_44_code 10 = .ok (.aload_n 0, 1) := by decide +kernel
theorem d14_44_11 : decode prog_14_method_44_code 11 = .ok (.getfield 80, 3) := by decide +kernel
theorem d14_44_14 : decode prog_14_method_44_code 14 = .ok (.iconst 4, 1) := by decide +kernel
theorem d14_44_15 : decode prog_14_method_44_code 15 = .ok (.iload_n 1, 1) := by decide +kernel
theorem d14_44_16 : decode prog_14_method_44_code 16 = .ok (.imul, 1) := by decide +kernel
theorem d14_44_17 : decode prog_14_method_44_code 17 = .ok (.iload_n 2, 1) := by decide +kernel
theorem d14_44_18 : decode prog_14_method_44_code 18 = .ok (.iadd, 1) := by decide +kernel
theorem d14_44_19 : decode prog_14_method_44_code 19 = .ok (.iaload, 1) := by decide +kernel
theorem d14_44_20 : decode prog_14_method_44_code 20 = .ok (.iastore, 1) := by decide +kernel
theorem d14_44_21 : decode prog_14_method_44_code 21 = .ok (.iconst 0, 1) := by decide +kernel
theorem d14_44_22 : decode prog_14_method_44_code 22 = .ok (.istore 5, 2) := by decide +kernel
theorem d14_44_24 : decode prog_14_method_44_code 24 = .ok (.iload 5, 2) := by decide +kernel
theorem d14_44_26 : decode prog_14_method_44_code 26 = .ok (.bipush 12, 2) := by decide +kernel
theorem d14_44_28 : decode prog_14_method_44_code 28 = .ok (.if_icmp .ge 44, 3) := by decide +kernel
theorem d14_44_31 : decode prog_14_method_44_code 31 = .ok (.aload_n 0, 1) := by decide +kernel
theorem d14_44_32 : decode prog_14_method_44_code 32 = .ok (.getfield 77, 3) := by decide +kernel
theorem d14_44_35 : decode prog_14_method_44_code 35 = .ok (.bipush 48, 2) := by decide +kernel
theorem d14_44_37 : decode prog_14_method_44_code 37 = .ok (.iload_n 3, 1) := by decide +kernel
theorem d14_44_38 : decode prog_14_method_44_code 38 = .ok (.imul, 1) := by decide +kernel
theorem d14_44_39 : decode prog_14_method_44_code 39 = .ok (.bipush 12, 2) := by decide +kernel
theorem d14_44_41 : decode prog_14_method_44_code 41 = .ok (.iload 4, 2) := by decide +kernel
theorem d14_44_43 : decode prog_14_method_44_code 43 = .ok (.imul, 1) := by decide +kernel
theorem d14_44_44 : decode prog_14_method_44_code 44 = .ok (.iadd, 1) := by decide +kernel
theorem d14_44_45 : decode prog_14_method_44_code 45 = .ok (.iload 5, 2) := by decide +kernel
theorem d14_44_47 : decode prog_14_method_44_code 47 = .ok (.iadd, 1) := by decide +kernel
theorem d14_44_48 : decode prog_14_method_44_code 48 = .ok (.aload_n 0, 1) := by decide +kernel
theorem d14_44_49 : decode prog_14_method_44_code 49 = .ok (.getfield 77, 3) := by decide +kernel
theorem d14_44_52 : decode prog_14_method_44_code 52 = .ok (.bipush 48, 2) := by decide +kernel
theorem d14_44_54 : decode prog_14_method_44_code 54 = .ok (.iload_n 1, 1) := by decide +kernel
theorem d14_44_55 : decode prog_14_method_44_code 55 = .ok (.imul, 1) := by decide +kernel
theorem d14_44_56 : decode prog_14_method_44_code 56 = .ok (.bipush 12, 2) := by decide +kernel
theorem d14_44_58 : decode prog_14_method_44_code 58 = .ok (.iload_n 2, 1) := by decide +kernel
theorem d14_44_59 : decode prog_14_method_44_code 59 = .ok (.imul, 1) := by decide +kernel
theorem d14_44_60 : decode prog_14_method_44_code 60 = .ok (.iadd, 1) := by decide +kernel
theorem d14_44_61 : decode prog_14_method_44_code 61 = .ok (.iload 5, 2) := by decide +kernel
theorem d14_44_63 : decode prog_14_method_44_code 63 = .ok (.iadd, 1) := by decide +kernel
theorem d14_44_64 : decode prog_14_method_44_code 64 = .ok (.iaload, 1) := by decide +kernel
theorem d14_44_65 : decode prog_14_method_44_code 65 = .ok (.iastore, 1) := by decide +kernel
theorem d14_44_66 : decode prog_14_method_44_code 66 = .ok (.iinc 5 1, 3) := by decide +kernel
theorem d14_44_69 : decode prog_14_method_44_code 69 = .ok (.goto (-45), 3) := by decide +kernel
theorem d14_44_72 : decode prog_14_method_44_code 72 = .ok (.return_, 1) := by decide +kernel
