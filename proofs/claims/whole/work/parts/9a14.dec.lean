theorem d14_39_0 : decode prog_14_method_39_code 0 = .ok (.iload_n 1, 1) := by decide +kernel
theorem d14_39_1 : decode prog_14_method_39_code 1 = .ok (.bipush 92, 2) := by decide +kernel
theorem d14_39_3 : decode prog_14_method_39_code 3 = .ok (.if_icmp .ne 44, 3) := by decide +kernel
theorem d14_39_6 : decode prog_14_method_39_code 6 = .ok (.aload_n 0, 1) := by decide +kernel
theorem d14_39_7 : decode prog_14_method_39_code 7 = .ok (.iconst 0, 1) := by decide +kernel
theorem d14_39_8 : decode prog_14_method_39_code 8 = .ok (.invokevirtual 150, 3) := by decide +kernel
theorem d14_39_11 : decode prog_14_method_39_code 11 = .ok (.istore_n 2, 1) := by decide +kernel
theorem d14_39_12 : decode prog_14_method_39_code 12 = .ok (.iload_n 2, 1) := by decide +kernel
theorem d14_39_13 : decode prog_14_method_39_code 13 = .ok (.invokestatic 203, 3) := by decide +kernel
theorem d14_39_16 : decode prog_14_method_39_code 16 = .ok (.ifCond .eq 22, 3) := by decide +kernel
theorem d14_39_19 : decode prog_14_method_39_code 19 = .ok (.aload_n 0, 1) := by decide +kernel
theorem d14_39_20 : decode prog_14_method_39_code 20 = .ok (.dup, 1) := by decide +kernel
theorem d14_39_21 : decode prog_14_method_39_code 21 = .ok (.getfield 133, 3) := by decide +kernel
theorem d14_39_24 : decode prog_14_method_39_code 24 = .ok (.iconst 1, 1) := by decide +kernel
theorem d14_39_25 : decode prog_14_method_39_code 25 = .ok (.iadd, 1) := by decide +kernel
theorem d14_39_26 : decode prog_14_method_39_code 26 = .ok (.putfield 133, 3) := by decide +kernel
theorem d14_39_29 : decode prog_14_method_39_code 29 = .ok (.aload_n 0, 1) := by decide +kernel
theorem d14_39_30 : decode prog_14_method_39_code 30 = .ok (.iload_n 2, 1) := by decide +kernel
theorem d14_39_31 : decode prog_14_method_39_code 31 = .ok (.iload_n 2, 1) := by decide +kernel
theorem d14_39_32 : decode prog_14_method_39_code 32 = .ok (.invokevirtual 206, 3) := by decide +kernel
theorem d14_39_35 : decode prog_14_method_39_code 35 = .ok (.goto 9, 3) := by decide +kernel
theorem d14_39_38 : decode prog_14_method_39_code 38 = .ok (.aload_n 0, 1) := by decide +kernel
theorem d14_39_39 : decode prog_14_method_39_code 39 = .ok (.bipush 7, 2) := by decide +kernel
theorem d14_39_41 : decode prog_14_method_39_code 41 = .ok (.putfield 156, 3) := by decide +kernel
theorem d14_39_44 : decode prog_14_method_39_code 44 = .ok (.goto 76, 3) := by decide +kernel
theorem d14_39_47 : decode prog_14_method_39_code 47 = .ok (.iload_n 1, 1) := by decide +kernel
theorem d14_39_48 : decode prog_14_method_39_code 48 = .ok (.bipush 94, 2) := by decide +kernel
theorem d14_39_50 : decode prog_14_method_39_code 50 = .ok (.if_icmp .eq 9, 3) := by decide +kernel
theorem d14_39_53 : decode prog_14_method_39_code 53 = .ok (.iload_n 1, 1) := by decide +kernel
theorem d14_39_54 : decode prog_14_method_39_code 54 = .ok (.bipush 36, 2) := by decide +kernel
theorem d14_39_56 : decode prog_14_method_39_code 56 = .ok (.if_icmp .ne 28, 3) := by decide +kernel
theorem d14_39_59 : decode prog_14_method_39_code 59 = .ok (.aload_n 0, 1) := by decide +kernel
theorem d14_39_60 : decode prog_14_method_39_code 60 = .ok (.iload_n 1, 1) := by decide +kernel
theorem d14_39_61 : decode prog_14_method_39_code 61 = .ok (.bipush 94, 2) := by decide +kernel
theorem d14_39_63 : decode prog_14_method_39_code 63 = .ok (.if_icmp .ne 7, 3) := by decide +kernel
theorem d14_39_66 : decode prog_14_method_39_code 66 = .ok (.iconst 2, 1) := by decide +kernel
theorem d14_39_67 : decode prog_14_method_39_code 67 = .ok (.goto 4, 3) := by decide +kernel
theorem d14_39_70 : decode prog_14_method_39_code 70 = .ok (.iconst 3, 1) := by decide +kernel
theorem d14_39_71 : decode prog_14_method_39_code 71 = .ok (.iconst 1, 1) := by decide +kernel
theorem d14_39_72 : decode prog_14_method_39_code 72 = .ok (.invokevirtual 146, 3) := by decide +kernel
theorem d14_39_75 : decode prog_14_method_39_code 75 = .ok (.istore_n 2, 1) := by decide +kernel
theorem d14_39_76 : decode prog_14_method_39_code 76 = .ok (.aload_n 0, 1) := by decide +kernel
theorem d14_39_77 : decode prog_14_method_39_code 77 = .ok (.iload_n 2, 1) := by decide +kernel
theorem d14_39_78 : decode prog_14_method_39_code 78 = .ok (.invokevirtual 166, 3) := by decide +kernel
theorem d14_39_81 : decode prog_14_method_39_code 81 = .ok (.goto 39, 3) := by decide +kernel
theorem d14_39_84 : decode prog_14_method_39_code 84 = .ok (.iload_n 1, 1) := by decide +kernel
theorem d14_39_85 : decode prog_14_method_39_code 85 = .ok (.bipush 91, 2) := by decide +kernel
theorem d14_39_87 : decode prog_14_method_39_code 87 = .ok (.if_icmp .ne 10, 3) := by decide +kernel
theorem d14_39_90 : decode prog_14_method_39_code 90 = .ok (.aload_n 0, 1) := by decide +kernel
theorem d14_39_91 : decode prog_14_method_39_code 91 = .ok (.invokevirtual 209, 3) := by decide +kernel
theorem d14_39_94 : decode prog_14_method_39_code 94 = .ok (.goto 26, 3) := by decide +kernel
theorem d14_39_97 : decode prog_14_method_39_code 97 = .ok (.iload_n 1, 1) := by decide +kernel
theorem d14_39_98 : decode prog_14_method_39_code 98 = .ok (.bipush 46, 2) := by decide +kernel
theorem d14_39_100 : decode prog_14_method_39_code 100 = .ok (.if_icmp .ne 14, 3) := by decide +kernel
theorem d14_39_103 : decode prog_14_method_39_code 103 = .ok (.aload_n 0, 1) := by decide +kernel
theorem d14_39_104 : decode prog_14_method_39_code 104 = .ok (.bipush 32, 2) := by decide +kernel
theorem d14_39_106 : decode prog_14_method_39_code 106 = .ok (.bipush 126, 2) := by decide +kernel
theorem d14_39_108 : decode prog_14_method_39_code 108 = .ok (.invokevirtual 206, 3) := by decide +kernel
theorem d14_39_111 : decode prog_14_method_39_code 111 = .ok (.goto 9, 3) := by decide +kernel
theorem d14_39_114 : decode prog_14_method_39_code 114 = .ok (.aload_n 0, 1) := by decide +kernel
theorem d14_39_115 : decode prog_14_method_39_code 115 = .ok (.iload_n 1, 1) := by decide +kernel
theorem d14_39_116 : decode prog_14_method_39_code 116 = .ok (.iload_n 1, 1) := by decide +kernel
theorem d14_39_117 : decode prog_14_method_39_code 117 = .ok (.invokevirtual 206, 3) := by decide +kernel
theorem d14_39_120 : decode prog_14_method_39_code 120 = .ok (.return_, 1) := by decide +kernel
