theorem d14_33_0 : decode prog_14_method_33_code 0 = .ok (.aload_n 0, 1) := by decide +kernel
theorem d14_33_1 : decode prog_14_method_33_code 1 = .ok (.iconst 0, 1) := by decide +kernel
theorem d14_33_2 : decode prog_14_method_33_code 2 = .ok (.invokevirtual 150, 3) := by decide +kernel
theorem d14_33_5 : decode prog_14_method_33_code 5 = .ok (.iload_n 1, 1) := by decide +kernel
theorem d14_33_6 : decode prog_14_method_33_code 6 = .ok (.if_icmp .ne 66, 3) := by decide +kernel
theorem d14_33_9 : decode prog_14_method_33_code 9 = .ok (.aload_n 0, 1) := by decide +kernel
theorem d14_33_10 : decode prog_14_method_33_code 10 = .ok (.iconst 1, 1) := by decide +kernel
theorem d14_33_11 : decode prog_14_method_33_code 11 = .ok (.invokevirtual 150, 3) := by decide +kernel
theorem d14_33_14 : decode prog_14_method_33_code 14 = .ok (.iload_n 2, 1) := by decide +kernel
theorem d14_33_15 : decode prog_14_method_33_code 15 = .ok (.if_icmp .ne 57, 3) := by decide +kernel
theorem d14_33_18 : decode prog_14_method_33_code 18 = .ok (.aload_n 0, 1) := by decide +kernel
theorem d14_33_19 : decode prog_14_method_33_code 19 = .ok (.iconst 2, 1) := by decide +kernel
theorem d14_33_20 : decode prog_14_method_33_code 20 = .ok (.invokevirtual 150, 3) := by decide +kernel
theorem d14_33_23 : decode prog_14_method_33_code 23 = .ok (.iload_n 3, 1) := by decide +kernel
theorem d14_33_24 : decode prog_14_method_33_code 24 = .ok (.if_icmp .ne 48, 3) := by decide +kernel
theorem d14_33_27 : decode prog_14_method_33_code 27 = .ok (.aload_n 0, 1) := by decide +kernel
theorem d14_33_28 : decode prog_14_method_33_code 28 = .ok (.iconst 3, 1) := by decide +kernel
theorem d14_33_29 : decode prog_14_method_33_code 29 = .ok (.invokevirtual 150, 3) := by decide +kernel
theorem d14_33_32 : decode prog_14_method_33_code 32 = .ok (.iload 4, 2) := by decide +kernel
theorem d14_33_34 : decode prog_14_method_33_code 34 = .ok (.if_icmp .ne 38, 3) := by decide +kernel
theorem d14_33_37 : decode prog_14_method_33_code 37 = .ok (.aload_n 0, 1) := by decide +kernel
theorem d14_33_38 : decode prog_14_method_33_code 38 = .ok (.iconst 4, 1) := by decide +kernel
theorem d14_33_39 : decode prog_14_method_33_code 39 = .ok (.invokevirtual 150, 3) := by decide +kernel
theorem d14_33_42 : decode prog_14_method_33_code 42 = .ok (.iload 5, 2) := by decide +kernel
theorem d14_33_44 : decode prog_14_method_33_code 44 = .ok (.if_icmp .ne 28, 3) := by decide +kernel
theorem d14_33_47 : decode prog_14_method_33_code 47 = .ok (.aload_n 0, 1) := by decide +kernel
theorem d14_33_48 : decode prog_14_method_33_code 48 = .ok (.iconst 5, 1) := by decide +kernel
theorem d14_33_49 : decode prog_14_method_33_code 49 = .ok (.invokevirtual 150, 3) := by decide +kernel
theorem d14_33_52 : decode prog_14_method_33_code 52 = .ok (.bipush 58, 2) := by decide +kernel
theorem d14_33_54 : decode prog_14_method_33_code 54 = .ok (.if_icmp .ne 18, 3) := by decide +kernel
theorem d14_33_57 : decode prog_14_method_33_code 57 = .ok (.aload_n 0, 1) := by decide +kernel
theorem d14_33_58 : decode prog_14_method_33_code 58 = .ok (.bipush 6, 2) := by decide +kernel
theorem d14_33_60 : decode prog_14_method_33_code 60 = .ok (.invokevirtual 150, 3) := by decide +kernel
theorem d14_33_63 : decode prog_14_method_33_code 63 = .ok (.bipush 93, 2) := by decide +kernel
theorem d14_33_65 : decode prog_14_method_33_code 65 = .ok (.if_icmp .ne 7, 3) := by decide +kernel
theorem d14_33_68 : decode prog_14_method_33_code 68 = .ok (.iconst 1, 1) := by decide +kernel
theorem d14_33_69 : decode prog_14_method_33_code 69 = .ok (.goto 4, 3) := by decide +kernel
theorem d14_33_72 : decode prog_14_method_33_code 72 = .ok (.iconst 0, 1) := by decide +kernel
theorem d14_33_73 : decode prog_14_method_33_code 73 = .ok (.ireturn, 1) := by decide +kernel
