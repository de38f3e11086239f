theorem d14_29_0 : decode prog_14_method_29_code 0 = .ok (.aload_n 0, 1) := by decide +kernel
theorem d14_29_1 : decode prog_14_method_29_code 1 = .ok (.invokevirtual 142, 3) := by decide +kernel
theorem d14_29_4 : decode prog_14_method_29_code 4 = .ok (.ifCond .ne 39, 3) := by decide +kernel
theorem d14_29_7 : decode prog_14_method_29_code 7 = .ok (.aload_n 0, 1) := by decide +kernel
theorem d14_29_8 : decode prog_14_method_29_code 8 = .ok (.getfield 35, 3) := by decide +kernel
theorem d14_29_11 : decode prog_14_method_29_code 11 = .ok (.aload_n 0, 1) := by decide +kernel
theorem d14_29_12 : decode prog_14_method_29_code 12 = .ok (.getfield 62, 3) := by decide +kernel
theorem d14_29_15 : decode prog_14_method_29_code 15 = .ok (.aload_n 0, 1) := by decide +kernel
theorem d14_29_16 : decode prog_14_method_29_code 16 = .ok (.getfield 139, 3) := by decide +kernel
theorem d14_29_19 : decode prog_14_method_29_code 19 = .ok (.iaload, 1) := by decide +kernel
theorem d14_29_20 : decode prog_14_method_29_code 20 = .ok (.iaload, 1) := by decide +kernel
theorem d14_29_21 : decode prog_14_method_29_code 21 = .ok (.iconst 2, 1) := by decide +kernel
theorem d14_29_22 : decode prog_14_method_29_code 22 = .ok (.if_icmp .eq 21, 3) := by decide +kernel
theorem d14_29_25 : decode prog_14_method_29_code 25 = .ok (.aload_n 0, 1) := by decide +kernel
theorem d14_29_26 : decode prog_14_method_29_code 26 = .ok (.getfield 35, 3) := by decide +kernel
theorem d14_29_29 : decode prog_14_method_29_code 29 = .ok (.aload_n 0, 1) := by decide +kernel
theorem d14_29_30 : decode prog_14_method_29_code 30 = .ok (.getfield 62, 3) := by decide +kernel
theorem d14_29_33 : decode prog_14_method_29_code 33 = .ok (.aload_n 0, 1) := by decide +kernel
theorem d14_29_34 : decode prog_14_method_29_code 34 = .ok (.getfield 139, 3) := by decide +kernel
theorem d14_29_37 : decode prog_14_method_29_code 37 = .ok (.iaload, 1) := by decide +kernel
theorem d14_29_38 : decode prog_14_method_29_code 38 = .ok (.iaload, 1) := by decide +kernel
theorem d14_29_39 : decode prog_14_method_29_code 39 = .ok (.iconst 3, 1) := by decide +kernel
theorem d14_29_40 : decode prog_14_method_29_code 40 = .ok (.if_icmp .ne 11, 3) := by decide +kernel
theorem d14_29_43 : decode prog_14_method_29_code 43 = .ok (.aload_n 0, 1) := by decide +kernel
theorem d14_29_44 : decode prog_14_method_29_code 44 = .ok (.iconst 3, 1) := by decide +kernel
theorem d14_29_45 : decode prog_14_method_29_code 45 = .ok (.putfield 156, 3) := by decide +kernel
theorem d14_29_48 : decode prog_14_method_29_code 48 = .ok (.goto 52, 3) := by decide +kernel
theorem d14_29_51 : decode prog_14_method_29_code 51 = .ok (.iload_n 1, 1) := by decide +kernel
theorem d14_29_52 : decode prog_14_method_29_code 52 = .ok (.bipush 42, 2) := by decide +kernel
theorem d14_29_54 : decode prog_14_method_29_code 54 = .ok (.if_icmp .ne 12, 3) := by decide +kernel
theorem d14_29_57 : decode prog_14_method_29_code 57 = .ok (.aload_n 0, 1) := by decide +kernel
theorem d14_29_58 : decode prog_14_method_29_code 58 = .ok (.iconst 0, 1) := by decide +kernel
theorem d14_29_59 : decode prog_14_method_29_code 59 = .ok (.iconst (-1), 1) := by decide +kernel
theorem d14_29_60 : decode prog_14_method_29_code 60 = .ok (.invokevirtual 159, 3) := by decide +kernel
theorem d14_29_63 : decode prog_14_method_29_code 63 = .ok (.goto 37, 3) := by decide +kernel
theorem d14_29_66 : decode prog_14_method_29_code 66 = .ok (.iload_n 1, 1) := by decide +kernel
theorem d14_29_67 : decode prog_14_method_29_code 67 = .ok (.bipush 43, 2) := by decide +kernel
theorem d14_29_69 : decode prog_14_method_29_code 69 = .ok (.if_icmp .ne 12, 3) := by decide +kernel
theorem d14_29_72 : decode prog_14_method_29_code 72 = .ok (.aload_n 0, 1) := by decide +kernel
theorem d14_29_73 : decode prog_14_method_29_code 73 = .ok (.iconst 1, 1) := by decide +kernel
theorem d14_29_74 : decode prog_14_method_29_code 74 = .ok (.iconst (-1), 1) := by decide +kernel
theorem d14_29_75 : decode prog_14_method_29_code 75 = .ok (.invokevirtual 159, 3) := by decide +kernel
theorem d14_29_78 : decode prog_14_method_29_code 78 = .ok (.goto 22, 3) := by decide +kernel
theorem d14_29_81 : decode prog_14_method_29_code 81 = .ok (.iload_n 1, 1) := by decide +kernel
theorem d14_29_82 : decode prog_14_method_29_code 82 = .ok (.bipush 63, 2) := by decide +kernel
theorem d14_29_84 : decode prog_14_method_29_code 84 = .ok (.if_icmp .ne 12, 3) := by decide +kernel
theorem d14_29_87 : decode prog_14_method_29_code 87 = .ok (.aload_n 0, 1) := by decide +kernel
theorem d14_29_88 : decode prog_14_method_29_code 88 = .ok (.iconst 0, 1) := by decide +kernel
theorem d14_29_89 : decode prog_14_method_29_code 89 = .ok (.iconst 1, 1) := by decide +kernel
theorem d14_29_90 : decode prog_14_method_29_code 90 = .ok (.invokevirtual 159, 3) := by decide +kernel
theorem d14_29_93 : decode prog_14_method_29_code 93 = .ok (.goto 7, 3) := by decide +kernel
theorem d14_29_96 : decode prog_14_method_29_code 96 = .ok (.aload_n 0, 1) := by decide +kernel
theorem d14_29_97 : decode prog_14_method_29_code 97 = .ok (.invokevirtual 163, 3) := by decide +kernel
theorem d14_29_100 : decode prog_14_method_29_code 100 = .ok (.return_, 1) := by decide +kernel
