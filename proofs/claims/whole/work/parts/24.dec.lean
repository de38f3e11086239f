theorem d11_2_0 : decode prog_11_method_2_code 0 = .ok (.iconst 0, 1) := by decide +kernel
theorem d11_2_1 : decode prog_11_method_2_code 1 = .ok (.istore 4, 2) := by decide +kernel
theorem d11_2_3 : decode prog_11_method_2_code 3 = .ok (.iload 4, 2) := by decide +kernel
theorem d11_2_5 : decode prog_11_method_2_code 5 = .ok (.iconst 2, 1) := by decide +kernel
theorem d11_2_6 : decode prog_11_method_2_code 6 = .ok (.iadd, 1) := by decide +kernel
theorem d11_2_7 : decode prog_11_method_2_code 7 = .ok (.aload_n 0, 1) := by decide +kernel
theorem d11_2_8 : decode prog_11_method_2_code 8 = .ok (.getfield 13, 3) := by decide +kernel
theorem d11_2_11 : decode prog_11_method_2_code 11 = .ok (.arraylength, 1) := by decide +kernel
theorem d11_2_12 : decode prog_11_method_2_code 12 = .ok (.if_icmp .ge 48, 3) := by decide +kernel
theorem d11_2_15 : decode prog_11_method_2_code 15 = .ok (.aload_n 0, 1) := by decide +kernel
theorem d11_2_16 : decode prog_11_method_2_code 16 = .ok (.getfield 13, 3) := by decide +kernel
theorem d11_2_19 : decode prog_11_method_2_code 19 = .ok (.iload 4, 2) := by decide +kernel
theorem d11_2_21 : decode prog_11_method_2_code 21 = .ok (.caload, 1) := by decide +kernel
theorem d11_2_22 : decode prog_11_method_2_code 22 = .ok (.iload_n 1, 1) := by decide +kernel
theorem d11_2_23 : decode prog_11_method_2_code 23 = .ok (.if_icmp .ne 31, 3) := by decide +kernel
theorem d11_2_26 : decode prog_11_method_2_code 26 = .ok (.aload_n 0, 1) := by decide +kernel
theorem d11_2_27 : decode prog_11_method_2_code 27 = .ok (.getfield 13, 3) := by decide +kernel
theorem d11_2_30 : decode prog_11_method_2_code 30 = .ok (.iload 4, 2) := by decide +kernel
theorem d11_2_32 : decode prog_11_method_2_code 32 = .ok (.iconst 1, 1) := by decide +kernel
theorem d11_2_33 : decode prog_11_method_2_code 33 = .ok (.iadd, 1) := by decide +kernel
theorem d11_2_34 : decode prog_11_method_2_code 34 = .ok (.caload, 1) := by decide +kernel
theorem d11_2_35 : decode prog_11_method_2_code 35 = .ok (.iload_n 2, 1) := by decide +kernel
theorem d11_2_36 : decode prog_11_method_2_code 36 = .ok (.if_icmp .ne 18, 3) := by decide +kernel
theorem d11_2_39 : decode prog_11_method_2_code 39 = .ok (.aload_n 0, 1) := by decide +kernel
theorem d11_2_40 : decode prog_11_method_2_code 40 = .ok (.getfield 13, 3) := by decide +kernel
theorem d11_2_43 : decode prog_11_method_2_code 43 = .ok (.iload 4, 2) := by decide +kernel
theorem d11_2_45 : decode prog_11_method_2_code 45 = .ok (.iconst 2, 1) := by decide +kernel
theorem d11_2_46 : decode prog_11_method_2_code 46 = .ok (.iadd, 1) := by decide +kernel
theorem d11_2_47 : decode prog_11_method_2_code 47 = .ok (.caload, 1) := by decide +kernel
theorem d11_2_48 : decode prog_11_method_2_code 48 = .ok (.iload_n 3, 1) := by decide +kernel
theorem d11_2_49 : decode prog_11_method_2_code 49 = .ok (.if_icmp .ne 5, 3) := by decide +kernel
theorem d11_2_52 : decode prog_11_method_2_code 52 = .ok (.iconst 1, 1) := by decide +kernel
theorem d11_2_53 : decode prog_11_method_2_code 53 = .ok (.ireturn, 1) := by decide +kernel
theorem d11_2_54 : decode prog_11_method_2_code 54 = .ok (.iinc 4 1, 3) := by decide +kernel
theorem d11_2_57 : decode prog_11_method_2_code 57 = .ok (.goto (-54), 3) := by decide +kernel
theorem d11_2_60 : decode prog_11_method_2_code 60 = .ok (.iconst 0, 1) := by decide +kernel
theorem d11_2_61 : decode prog_11_method_2_code 61 = .ok (.ireturn, 1) := by decide +kernel
theorem d14_15_0 : decode prog_14_method_15_code 0 = .ok (.bipush 40, 2) := by decide +kernel
theorem d14_15_2 : decode prog_14_method_15_code 2 = .ok (.iload_n 1, 1) := by decide +kernel
theorem d14_15_3 : decode prog_14_method_15_code 3 = .ok (.imul, 1) := by decide +kernel
theorem d14_15_4 : decode prog_14_method_15_code 4 = .ok (.istore 5, 2) := by decide +kernel
theorem d14_15_6 : decode prog_14_method_15_code 6 = .ok (.iload 5, 2) := by decide +kernel
theorem d14_15_8 : decode prog_14_method_15_code 8 = .ok (.iconst 2, 1) := by decide +kernel
theorem d14_15_9 : decode prog_14_method_15_code 9 = .ok (.iadd, 1) := by decide +kernel
theorem d14_15_10 : decode prog_14_method_15_code 10 = .ok (.bipush 40, 2) := by decide +kernel
theorem d14_15_12 : decode prog_14_method_15_code 12 = .ok (.iload_n 1, 1) := by decide +kernel
theorem d14_15_13 : decode prog_14_method_15_code 13 = .ok (.imul, 1) := by decide +kernel
theorem d14_15_14 : decode prog_14_method_15_code 14 = .ok (.aload_n 0, 1) := by decide +kernel
theorem d14_15_15 : decode prog_14_method_15_code 15 = .ok (.getfield 13, 3) := by decide +kernel
theorem d14_15_18 : decode prog_14_method_15_code 18 = .ok (.iload_n 1, 1) := by decide +kernel
theorem d14_15_19 : decode prog_14_method_15_code 19 = .ok (.iaload, 1) := by decide +kernel
theorem d14_15_20 : decode prog_14_method_15_code 20 = .ok (.iadd, 1) := by decide +kernel
theorem d14_15_21 : decode prog_14_method_15_code 21 = .ok (.if_icmp .ge 49, 3) := by decide +kernel
theorem d14_15_24 : decode prog_14_method_15_code 24 = .ok (.aload_n 0, 1) := by decide +kernel
theorem d14_15_25 : decode prog_14_method_15_code 25 = .ok (.getfield 7, 3) := by decide +kernel
theorem d14_15_28 : decode prog_14_method_15_code 28 = .ok (.iload 5, 2) := by decide +kernel
theorem d14_15_30 : decode prog_14_method_15_code 30 = .ok (.iaload, 1) := by decide +kernel
theorem d14_15_31 : decode prog_14_method_15_code 31 = .ok (.iload_n 2, 1) := by decide +kernel
theorem d14_15_32 : decode prog_14_method_15_code 32 = .ok (.if_icmp .ne 32, 3) := by decide +kernel
theorem d14_15_35 : decode prog_14_method_15_code 35 = .ok (.aload_n 0, 1) := by decide +kernel
theorem d14_15_36 : decode prog_14_method_15_code 36 = .ok (.getfield 7, 3) := by decide +kernel
theorem d14_15_39 : decode prog_14_method_15_code 39 = .ok (.iload 5, 2) := by decide +kernel
theorem d14_15_41 : decode prog_14_method_15_code 41 = .ok (.iconst 1, 1) := by decide +kernel
theorem d14_15_42 : decode prog_14_method_15_code 42 = .ok (.iadd, 1) := by decide +kernel
theorem d14_15_43 : decode prog_14_method_15_code 43 = .ok (.iaload, 1) := by decide +kernel
theorem d14_15_44 : decode prog_14_method_15_code 44 = .ok (.iload_n 3, 1) := by decide +kernel
theorem d14_15_45 : decode prog_14_method_15_code 45 = .ok (.if_icmp .ne 19, 3) := by decide +kernel
theorem d14_15_48 : decode prog_14_method_15_code 48 = .ok (.aload_n 0, 1) := by decide +kernel
theorem d14_15_49 : decode prog_14_method_15_code 49 = .ok (.getfield 7, 3) := by decide +kernel
theorem d14_15_52 : decode prog_14_method_15_code 52 = .ok (.iload 5, 2) := by decide +kernel
theorem d14_15_54 : decode prog_14_method_15_code 54 = .ok (.iconst 2, 1) := by decide +kernel
theorem d14_15_55 : decode prog_14_method_15_code 55 = .ok (.iadd, 1) := by decide +kernel
theorem d14_15_56 : decode prog_14_method_15_code 56 = .ok (.iaload, 1) := by decide +kernel
theorem d14_15_57 : decode prog_14_method_15_code 57 = .ok (.iload 4, 2) := by decide +kernel
theorem d14_15_59 : decode prog_14_method_15_code 59 = .ok (.if_icmp .ne 5, 3) := by decide +kernel
theorem d14_15_62 : decode prog_14_method_15_code 62 = .ok (.iconst 1, 1) := by decide +kernel
theorem d14_15_63 : decode prog_14_method_15_code 63 = .ok (.ireturn, 1) := by decide +kernel
theorem d14_15_64 : decode prog_14_method_15_code 64 = .ok (.iinc 5 1, 3) := by decide +kernel
theorem d14_15_67 : decode prog_14_method_15_code 67 = .ok (.goto (-61), 3) := by decide +kernel
theorem d14_15_70 : decode prog_14_method_15_code 70 = .ok (.iconst 0, 1) := by decide +kernel
theorem d14_15_71 : decode prog_14_method_15_code 71 = .ok (.ireturn, 1) := by decide +kernel
