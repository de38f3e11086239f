theorem d14_38_0 : decode prog_14_method_38_code 0 = .ok (.aload_n 0, 1) := by decide +kernel
theorem d14_38_1 : decode prog_14_method_38_code 1 = .ok (.iconst 0, 1) := by decide +kernel
theorem d14_38_2 : decode prog_14_method_38_code 2 = .ok (.invokevirtual 150, 3) := by decide +kernel
theorem d14_38_5 : decode prog_14_method_38_code 5 = .ok (.istore_n 1, 1) := by decide +kernel
theorem d14_38_6 : decode prog_14_method_38_code 6 = .ok (.aload_n 0, 1) := by decide +kernel
theorem d14_38_7 : decode prog_14_method_38_code 7 = .ok (.dup, 1) := by decide +kernel
theorem d14_38_8 : decode prog_14_method_38_code 8 = .ok (.getfield 133, 3) := by decide +kernel
theorem d14_38_11 : decode prog_14_method_38_code 11 = .ok (.iconst 1, 1) := by decide +kernel
theorem d14_38_12 : decode prog_14_method_38_code 12 = .ok (.iadd, 1) := by decide +kernel
theorem d14_38_13 : decode prog_14_method_38_code 13 = .ok (.putfield 133, 3) := by decide +kernel
theorem d14_38_16 : decode prog_14_method_38_code 16 = .ok (.iload_n 1, 1) := by decide +kernel
theorem d14_38_17 : decode prog_14_method_38_code 17 = .ok (.bipush 40, 2) := by decide +kernel
theorem d14_38_19 : decode prog_14_method_38_code 19 = .ok (.if_icmp .ne 38, 3) := by decide +kernel
theorem d14_38_22 : decode prog_14_method_38_code 22 = .ok (.aload_n 0, 1) := by decide +kernel
theorem d14_38_23 : decode prog_14_method_38_code 23 = .ok (.getfield 139, 3) := by decide +kernel
theorem d14_38_26 : decode prog_14_method_38_code 26 = .ok (.bipush 6, 2) := by decide +kernel
theorem d14_38_28 : decode prog_14_method_38_code 28 = .ok (.if_icmp .ne 12, 3) := by decide +kernel
theorem d14_38_31 : decode prog_14_method_38_code 31 = .ok (.aload_n 0, 1) := by decide +kernel
theorem d14_38_32 : decode prog_14_method_38_code 32 = .ok (.bipush 8, 2) := by decide +kernel
theorem d14_38_34 : decode prog_14_method_38_code 34 = .ok (.putfield 156, 3) := by decide +kernel
theorem d14_38_37 : decode prog_14_method_38_code 37 = .ok (.goto 98, 3) := by decide +kernel
theorem d14_38_40 : decode prog_14_method_38_code 40 = .ok (.aload_n 0, 1) := by decide +kernel
theorem d14_38_41 : decode prog_14_method_38_code 41 = .ok (.dup, 1) := by decide +kernel
theorem d14_38_42 : decode prog_14_method_38_code 42 = .ok (.getfield 139, 3) := by decide +kernel
theorem d14_38_45 : decode prog_14_method_38_code 45 = .ok (.iconst 1, 1) := by decide +kernel
theorem d14_38_46 : decode prog_14_method_38_code 46 = .ok (.iadd, 1) := by decide +kernel
theorem d14_38_47 : decode prog_14_method_38_code 47 = .ok (.putfield 139, 3) := by decide +kernel
theorem d14_38_50 : decode prog_14_method_38_code 50 = .ok (.aload_n 0, 1) := by decide +kernel
theorem d14_38_51 : decode prog_14_method_38_code 51 = .ok (.invokevirtual 191, 3) := by decide +kernel
theorem d14_38_54 : decode prog_14_method_38_code 54 = .ok (.goto 81, 3) := by decide +kernel
theorem d14_38_57 : decode prog_14_method_38_code 57 = .ok (.iload_n 1, 1) := by decide +kernel
theorem d14_38_58 : decode prog_14_method_38_code 58 = .ok (.bipush 41, 2) := by decide +kernel
theorem d14_38_60 : decode prog_14_method_38_code 60 = .ok (.if_icmp .ne 10, 3) := by decide +kernel
theorem d14_38_63 : decode prog_14_method_38_code 63 = .ok (.aload_n 0, 1) := by decide +kernel
theorem d14_38_64 : decode prog_14_method_38_code 64 = .ok (.invokevirtual 194, 3) := by decide +kernel
theorem d14_38_67 : decode prog_14_method_38_code 67 = .ok (.goto 68, 3) := by decide +kernel
theorem d14_38_70 : decode prog_14_method_38_code 70 = .ok (.iload_n 1, 1) := by decide +kernel
theorem d14_38_71 : decode prog_14_method_38_code 71 = .ok (.bipush 124, 2) := by decide +kernel
theorem d14_38_73 : decode prog_14_method_38_code 73 = .ok (.if_icmp .ne 25, 3) := by decide +kernel
theorem d14_38_76 : decode prog_14_method_38_code 76 = .ok (.aload_n 0, 1) := by decide +kernel
theorem d14_38_77 : decode prog_14_method_38_code 77 = .ok (.invokevirtual 142, 3) := by decide +kernel
theorem d14_38_80 : decode prog_14_method_38_code 80 = .ok (.ifCond .eq 11, 3) := by decide +kernel
theorem d14_38_83 : decode prog_14_method_38_code 83 = .ok (.aload_n 0, 1) := by decide +kernel
theorem d14_38_84 : decode prog_14_method_38_code 84 = .ok (.iconst 1, 1) := by decide +kernel
theorem d14_38_85 : decode prog_14_method_38_code 85 = .ok (.putfield 156, 3) := by decide +kernel
theorem d14_38_88 : decode prog_14_method_38_code 88 = .ok (.goto 47, 3) := by decide +kernel
theorem d14_38_91 : decode prog_14_method_38_code 91 = .ok (.aload_n 0, 1) := by decide +kernel
theorem d14_38_92 : decode prog_14_method_38_code 92 = .ok (.invokevirtual 184, 3) := by decide +kernel
theorem d14_38_95 : decode prog_14_method_38_code 95 = .ok (.goto 40, 3) := by decide +kernel
theorem d14_38_98 : decode prog_14_method_38_code 98 = .ok (.iload_n 1, 1) := by decide +kernel
theorem d14_38_99 : decode prog_14_method_38_code 99 = .ok (.bipush 42, 2) := by decide +kernel
theorem d14_38_101 : decode prog_14_method_38_code 101 = .ok (.if_icmp .eq 21, 3) := by decide +kernel
theorem d14_38_104 : decode prog_14_method_38_code 104 = .ok (.iload_n 1, 1) := by decide +kernel
theorem d14_38_105 : decode prog_14_method_38_code 105 = .ok (.bipush 43, 2) := by decide +kernel
theorem d14_38_107 : decode prog_14_method_38_code 107 = .ok (.if_icmp .eq 15, 3) := by decide +kernel
theorem d14_38_110 : decode prog_14_method_38_code 110 = .ok (.iload_n 1, 1) := by decide +kernel
theorem d14_38_111 : decode prog_14_method_38_code 111 = .ok (.bipush 63, 2) := by decide +kernel
theorem d14_38_113 : decode prog_14_method_38_code 113 = .ok (.if_icmp .eq 9, 3) := by decide +kernel
theorem d14_38_116 : decode prog_14_method_38_code 116 = .ok (.iload_n 1, 1) := by decide +kernel
theorem d14_38_117 : decode prog_14_method_38_code 117 = .ok (.bipush 123, 2) := by decide +kernel
theorem d14_38_119 : decode prog_14_method_38_code 119 = .ok (.if_icmp .ne 11, 3) := by decide +kernel
theorem d14_38_122 : decode prog_14_method_38_code 122 = .ok (.aload_n 0, 1) := by decide +kernel
theorem d14_38_123 : decode prog_14_method_38_code 123 = .ok (.iload_n 1, 1) := by decide +kernel
theorem d14_38_124 : decode prog_14_method_38_code 124 = .ok (.invokevirtual 197, 3) := by decide +kernel
theorem d14_38_127 : decode prog_14_method_38_code 127 = .ok (.goto 8, 3) := by decide +kernel
theorem d14_38_130 : decode prog_14_method_38_code 130 = .ok (.aload_n 0, 1) := by decide +kernel
theorem d14_38_131 : decode prog_14_method_38_code 131 = .ok (.iload_n 1, 1) := by decide +kernel
theorem d14_38_132 : decode prog_14_method_38_code 132 = .ok (.invokevirtual 200, 3) := by decide +kernel
theorem d14_38_135 : decode prog_14_method_38_code 135 = .ok (.return_, 1) := by decide +kernel
