theorem d14_27_0 : decode prog_14_method_27_code 0 = .ok (.iload_n 0, 1) := by decide +kernel
theorem d14_27_1 : decode prog_14_method_27_code 1 = .ok (.bipush 48, 2) := by decide +kernel
theorem d14_27_3 : decode prog_14_method_27_code 3 = .ok (.if_icmp .lt 13, 3) := by decide +kernel
theorem d14_27_6 : decode prog_14_method_27_code 6 = .ok (.iload_n 0, 1) := by decide +kernel
theorem d14_27_7 : decode prog_14_method_27_code 7 = .ok (.bipush 57, 2) := by decide +kernel
theorem d14_27_9 : decode prog_14_method_27_code 9 = .ok (.if_icmp .gt 7, 3) := by decide +kernel
theorem d14_27_12 : decode prog_14_method_27_code 12 = .ok (.iconst 1, 1) := by decide +kernel
theorem d14_27_13 : decode prog_14_method_27_code 13 = .ok (.goto 4, 3) := by decide +kernel
theorem d14_27_16 : decode prog_14_method_27_code 16 = .ok (.iconst 0, 1) := by decide +kernel
theorem d14_27_17 : decode prog_14_method_27_code 17 = .ok (.ireturn, 1) := by decide +kernel
theorem d14_30_0 : decode prog_14_method_30_code 0 = .ok (.iload_n 0, 1) := by decide +kernel
theorem d14_30_1 : decode prog_14_method_30_code 1 = .ok (.bipush 94, 2) := by decide +kernel
theorem d14_30_3 : decode prog_14_method_30_code 3 = .ok (.if_icmp .eq 69, 3) := by decide +kernel
theorem d14_30_6 : decode prog_14_method_30_code 6 = .ok (.iload_n 0, 1) := by decide +kernel
theorem d14_30_7 : decode prog_14_method_30_code 7 = .ok (.bipush 46, 2) := by decide +kernel
theorem d14_30_9 : decode prog_14_method_30_code 9 = .ok (.if_icmp .eq 63, 3) := by decide +kernel
theorem d14_30_12 : decode prog_14_method_30_code 12 = .ok (.iload_n 0, 1) := by decide +kernel
theorem d14_30_13 : decode prog_14_method_30_code 13 = .ok (.bipush 91, 2) := by decide +kernel
theorem d14_30_15 : decode prog_14_method_30_code 15 = .ok (.if_icmp .eq 57, 3) := by decide +kernel
theorem d14_30_18 : decode prog_14_method_30_code 18 = .ok (.iload_n 0, 1) := by decide +kernel
theorem d14_30_19 : decode prog_14_method_30_code 19 = .ok (.bipush 36, 2) := by decide +kernel
theorem d14_30_21 : decode prog_14_method_30_code 21 = .ok (.if_icmp .eq 51, 3) := by decide +kernel
theorem d14_30_24 : decode prog_14_method_30_code 24 = .ok (.iload_n 0, 1) := by decide +kernel
theorem d14_30_25 : decode prog_14_method_30_code 25 = .ok (.bipush 40, 2) := by decide +kernel
theorem d14_30_27 : decode prog_14_method_30_code 27 = .ok (.if_icmp .eq 45, 3) := by decide +kernel
theorem d14_30_30 : decode prog_14_method_30_code 30 = .ok (.iload_n 0, 1) := by decide +kernel
theorem d14_30_31 : decode prog_14_method_30_code 31 = .ok (.bipush 41, 2) := by decide +kernel
theorem d14_30_33 : decode prog_14_method_30_code 33 = .ok (.if_icmp .eq 39, 3) := by decide +kernel
theorem d14_30_36 : decode prog_14_method_30_code 36 = .ok (.iload_n 0, 1) := by decide +kernel
theorem d14_30_37 : decode prog_14_method_30_code 37 = .ok (.bipush 124, 2) := by decide +kernel
theorem d14_30_39 : decode prog_14_method_30_code 39 = .ok (.if_icmp .eq 33, 3) := by decide +kernel
theorem d14_30_42 : decode prog_14_method_30_code 42 = .ok (.iload_n 0, 1) := by decide +kernel
theorem d14_30_43 : decode prog_14_method_30_code 43 = .ok (.bipush 42, 2) := by decide +kernel
theorem d14_30_45 : decode prog_14_method_30_code 45 = .ok (.if_icmp .eq 27, 3) := by decide +kernel
theorem d14_30_48 : decode prog_14_method_30_code 48 = .ok (.iload_n 0, 1) := by decide +kernel
theorem d14_30_49 : decode prog_14_method_30_code 49 = .ok (.bipush 43, 2) := by decide +kernel
theorem d14_30_51 : decode prog_14_method_30_code 51 = .ok (.if_icmp .eq 21, 3) := by decide +kernel
theorem d14_30_54 : decode prog_14_method_30_code 54 = .ok (.iload_n 0, 1) := by decide +kernel
theorem d14_30_55 : decode prog_14_method_30_code 55 = .ok (.bipush 63, 2) := by decide +kernel
theorem d14_30_57 : decode prog_14_method_30_code 57 = .ok (.if_icmp .eq 15, 3) := by decide +kernel
theorem d14_30_60 : decode prog_14_method_30_code 60 = .ok (.iload_n 0, 1) := by decide +kernel
theorem d14_30_61 : decode prog_14_method_30_code 61 = .ok (.bipush 123, 2) := by decide +kernel
theorem d14_30_63 : decode prog_14_method_30_code 63 = .ok (.if_icmp .eq 9, 3) := by decide +kernel
theorem d14_30_66 : decode prog_14_method_30_code 66 = .ok (.iload_n 0, 1) := by decide +kernel
theorem d14_30_67 : decode prog_14_method_30_code 67 = .ok (.bipush 92, 2) := by decide +kernel
theorem d14_30_69 : decode prog_14_method_30_code 69 = .ok (.if_icmp .ne 7, 3) := by decide +kernel
theorem d14_30_72 : decode prog_14_method_30_code 72 = .ok (.iconst 1, 1) := by decide +kernel
theorem d14_30_73 : decode prog_14_method_30_code 73 = .ok (.goto 4, 3) := by decide +kernel
theorem d14_30_76 : decode prog_14_method_30_code 76 = .ok (.iconst 0, 1) := by decide +kernel
theorem d14_30_77 : decode prog_14_method_30_code 77 = .ok (.ireturn, 1) := by decide +kernel
theorem d14_31_0 : decode prog_14_method_31_code 0 = .ok (.aload_n 0, 1) := by decide +kernel
theorem d14_31_1 : decode prog_14_method_31_code 1 = .ok (.iconst 1, 1) := by decide +kernel
theorem d14_31_2 : decode prog_14_method_31_code 2 = .ok (.iconst 1, 1) := by decide +kernel
theorem d14_31_3 : decode prog_14_method_31_code 3 = .ok (.invokevirtual 146, 3) := by decide +kernel
theorem d14_31_6 : decode prog_14_method_31_code 6 = .ok (.istore_n 3, 1) := by decide +kernel
theorem d14_31_7 : decode prog_14_method_31_code 7 = .ok (.iload_n 1, 1) := by decide +kernel
theorem d14_31_8 : decode prog_14_method_31_code 8 = .ok (.istore 4, 2) := by decide +kernel
theorem d14_31_10 : decode prog_14_method_31_code 10 = .ok (.iload 4, 2) := by decide +kernel
theorem d14_31_12 : decode prog_14_method_31_code 12 = .ok (.iload_n 2, 1) := by decide +kernel
theorem d14_31_13 : decode prog_14_method_31_code 13 = .ok (.if_icmp .gt 25, 3) := by decide +kernel
theorem d14_31_16 : decode prog_14_method_31_code 16 = .ok (.aload_n 0, 1) := by decide +kernel
theorem d14_31_17 : decode prog_14_method_31_code 17 = .ok (.getfield 56, 3) := by decide +kernel
theorem d14_31_20 : decode prog_14_method_31_code 20 = .ok (.bipush 95, 2) := by decide +kernel
theorem d14_31_22 : decode prog_14_method_31_code 22 = .ok (.iload_n 3, 1) := by decide +kernel
theorem d14_31_23 : decode prog_14_method_31_code 23 = .ok (.imul, 1) := by decide +kernel
theorem d14_31_24 : decode prog_14_method_31_code 24 = .ok (.iload 4, 2) := by decide +kernel
theorem d14_31_26 : decode prog_14_method_31_code 26 = .ok (.iadd, 1) := by decide +kernel
theorem d14_31_27 : decode prog_14_method_31_code 27 = .ok (.bipush 32, 2) := by decide +kernel
theorem d14_31_29 : decode prog_14_method_31_code 29 = .ok (.isub, 1) := by decide +kernel
theorem d14_31_30 : decode prog_14_method_31_code 30 = .ok (.iconst 1, 1) := by decide +kernel
theorem d14_31_31 : decode prog_14_method_31_code 31 = .ok (.bastore, 1) := by decide +kernel
theorem d14_31_32 : decode prog_14_method_31_code 32 = .ok (.iinc 4 1, 3) := by decide +kernel
theorem d14_31_35 : decode prog_14_method_31_code 35 = .ok (.goto (-25), 3) := by decide +kernel
theorem d14_31_38 : decode prog_14_method_31_code 38 = .ok (.aload_n 0, 1) := by decide +kernel
theorem d14_31_39 : decode prog_14_method_31_code 39 = .ok (.iload_n 3, 1) := by decide +kernel
theorem d14_31_40 : decode prog_14_method_31_code 40 = .ok (.invokevirtual 166, 3) := by decide +kernel
theorem d14_31_43 : decode prog_14_method_31_code 43 = .ok (.return_, 1) := by decide +kernel
theorem d14_32_0 : decode prog_14_method_32_code 0 = .ok (.iload_n 2, 1) := by decide +kernel
theorem d14_32_1 : decode prog_14_method_32_code 1 = .ok (.istore 4, 2) := by decide +kernel
theorem d14_32_3 : decode prog_14_method_32_code 3 = .ok (.iload 4, 2) := by decide +kernel
theorem d14_32_5 : decode prog_14_method_32_code 5 = .ok (.iload_n 3, 1) := by decide +kernel
theorem d14_32_6 : decode prog_14_method_32_code 6 = .ok (.if_icmp .gt 25, 3) := by decide +kernel
theorem d14_32_9 : decode prog_14_method_32_code 9 = .ok (.aload_n 0, 1) := by decide +kernel
theorem d14_32_10 : decode prog_14_method_32_code 10 = .ok (.getfield 56, 3) := by decide +kernel
theorem d14_32_13 : decode prog_14_method_32_code 13 = .ok (.bipush 95, 2) := by decide +kernel
theorem d14_32_15 : decode prog_14_method_32_code 15 = .ok (.iload_n 1, 1) := by decide +kernel
theorem d14_32_16 : decode prog_14_method_32_code 16 = .ok (.imul, 1) := by decide +kernel
theorem d14_32_17 : decode prog_14_method_32_code 17 = .ok (.iload 4, 2) := by decide +kernel
theorem d14_32_19 : decode prog_14_method_32_code 19 = .ok (.iadd, 1) := by decide +kernel
theorem d14_32_20 : decode prog_14_method_32_code 20 = .ok (.bipush 32, 2) := by decide +kernel
theorem d14_32_22 : decode prog_14_method_32_code 22 = .ok (.isub, 1) := by decide +kernel
theorem d14_32_23 : decode prog_14_method_32_code 23 = .ok (.iconst 1, 1) := by decide +kernel
theorem d14_32_24 : decode prog_14_method_32_code 24 = .ok (.bastore, 1) := by decide +kernel
theorem d14_32_25 : decode prog_14_method_32_code 25 = .ok (.iinc 4 1, 3) := by decide +kernel
theorem d14_32_28 : decode prog_14_method_32_code 28 = .ok (.goto (-25), 3) := by decide +kernel
theorem d14_32_31 : decode prog_14_method_32_code 31 = .ok (.return_, 1) := by decide +kernel
