theorem d14_35_0 : decode prog_14_method_35_code 0 = .ok (.aload_n 0, 1) := by decide +kernel
theorem d14_35_1 : decode prog_14_method_35_code 1 = .ok (.iconst 0, 1) := by decide +kernel
theorem d14_35_2 : decode prog_14_method_35_code 2 = .ok (.invokevirtual 150, 3) := by decide +kernel
theorem d14_35_5 : decode prog_14_method_35_code 5 = .ok (.istore_n 2, 1) := by decide +kernel
theorem d14_35_6 : decode prog_14_method_35_code 6 = .ok (.iload_n 2, 1) := by decide +kernel
theorem d14_35_7 : decode prog_14_method_35_code 7 = .ok (.bipush 91, 2) := by decide +kernel
theorem d14_35_9 : decode prog_14_method_35_code 9 = .ok (.if_icmp .ne 31, 3) := by decide +kernel
theorem d14_35_12 : decode prog_14_method_35_code 12 = .ok (.aload_n 0, 1) := by decide +kernel
theorem d14_35_13 : decode prog_14_method_35_code 13 = .ok (.iconst 1, 1) := by decide +kernel
theorem d14_35_14 : decode prog_14_method_35_code 14 = .ok (.invokevirtual 150, 3) := by decide +kernel
theorem d14_35_17 : decode prog_14_method_35_code 17 = .ok (.bipush 58, 2) := by decide +kernel
theorem d14_35_19 : decode prog_14_method_35_code 19 = .ok (.if_icmp .ne 21, 3) := by decide +kernel
theorem d14_35_22 : decode prog_14_method_35_code 22 = .ok (.aload_n 0, 1) := by decide +kernel
theorem d14_35_23 : decode prog_14_method_35_code 23 = .ok (.aload_n 0, 1) := by decide +kernel
theorem d14_35_24 : decode prog_14_method_35_code 24 = .ok (.getfield 133, 3) := by decide +kernel
theorem d14_35_27 : decode prog_14_method_35_code 27 = .ok (.iconst 2, 1) := by decide +kernel
theorem d14_35_28 : decode prog_14_method_35_code 28 = .ok (.iadd, 1) := by decide +kernel
theorem d14_35_29 : decode prog_14_method_35_code 29 = .ok (.putfield 133, 3) := by decide +kernel
theorem d14_35_32 : decode prog_14_method_35_code 32 = .ok (.aload_n 0, 1) := by decide +kernel
theorem d14_35_33 : decode prog_14_method_35_code 33 = .ok (.iload_n 1, 1) := by decide +kernel
theorem d14_35_34 : decode prog_14_method_35_code 34 = .ok (.invokevirtual 178, 3) := by decide +kernel
theorem d14_35_37 : decode prog_14_method_35_code 37 = .ok (.goto 124, 3) := by decide +kernel
theorem d14_35_40 : decode prog_14_method_35_code 40 = .ok (.iload_n 2, 1) := by decide +kernel
theorem d14_35_41 : decode prog_14_method_35_code 41 = .ok (.bipush 91, 2) := by decide +kernel
theorem d14_35_43 : decode prog_14_method_35_code 43 = .ok (.if_icmp .ne 32, 3) := by decide +kernel
theorem d14_35_46 : decode prog_14_method_35_code 46 = .ok (.aload_n 0, 1) := by decide +kernel
theorem d14_35_47 : decode prog_14_method_35_code 47 = .ok (.iconst 1, 1) := by decide +kernel
theorem d14_35_48 : decode prog_14_method_35_code 48 = .ok (.invokevirtual 150, 3) := by decide +kernel
theorem d14_35_51 : decode prog_14_method_35_code 51 = .ok (.bipush 46, 2) := by decide +kernel
theorem d14_35_53 : decode prog_14_method_35_code 53 = .ok (.if_icmp .eq 13, 3) := by decide +kernel
theorem d14_35_56 : decode prog_14_method_35_code 56 = .ok (.aload_n 0, 1) := by decide +kernel
theorem d14_35_57 : decode prog_14_method_35_code 57 = .ok (.iconst 1, 1) := by decide +kernel
theorem d14_35_58 : decode prog_14_method_35_code 58 = .ok (.invokevirtual 150, 3) := by decide +kernel
theorem d14_35_61 : decode prog_14_method_35_code 61 = .ok (.bipush 61, 2) := by decide +kernel
theorem d14_35_63 : decode prog_14_method_35_code 63 = .ok (.if_icmp .ne 12, 3) := by decide +kernel
theorem d14_35_66 : decode prog_14_method_35_code 66 = .ok (.aload_n 0, 1) := by decide +kernel
theorem d14_35_67 : decode prog_14_method_35_code 67 = .ok (.bipush 6, 2) := by decide +kernel
theorem d14_35_69 : decode prog_14_method_35_code 69 = .ok (.putfield 156, 3) := by decide +kernel
theorem d14_35_72 : decode prog_14_method_35_code 72 = .ok (.goto 89, 3) := by decide +kernel
theorem d14_35_75 : decode prog_14_method_35_code 75 = .ok (.aload_n 0, 1) := by decide +kernel
theorem d14_35_76 : decode prog_14_method_35_code 76 = .ok (.iconst 1, 1) := by decide +kernel
theorem d14_35_77 : decode prog_14_method_35_code 77 = .ok (.invokevirtual 150, 3) := by decide +kernel
theorem d14_35_80 : decode prog_14_method_35_code 80 = .ok (.bipush 45, 2) := by decide +kernel
theorem d14_35_82 : decode prog_14_method_35_code 82 = .ok (.if_icmp .ne 62, 3) := by decide +kernel
theorem d14_35_85 : decode prog_14_method_35_code 85 = .ok (.aload_n 0, 1) := by decide +kernel
theorem d14_35_86 : decode prog_14_method_35_code 86 = .ok (.iconst 2, 1) := by decide +kernel
theorem d14_35_87 : decode prog_14_method_35_code 87 = .ok (.invokevirtual 150, 3) := by decide +kernel
theorem d14_35_90 : decode prog_14_method_35_code 90 = .ok (.ifCond .eq 54, 3) := by decide +kernel
theorem d14_35_93 : decode prog_14_method_35_code 93 = .ok (.aload_n 0, 1) := by decide +kernel
theorem d14_35_94 : decode prog_14_method_35_code 94 = .ok (.iconst 2, 1) := by decide +kernel
theorem d14_35_95 : decode prog_14_method_35_code 95 = .ok (.invokevirtual 150, 3) := by decide +kernel
theorem d14_35_98 : decode prog_14_method_35_code 98 = .ok (.bipush 93, 2) := by decide +kernel
theorem d14_35_100 : decode prog_14_method_35_code 100 = .ok (.if_icmp .eq 44, 3) := by decide +kernel
theorem d14_35_103 : decode prog_14_method_35_code 103 = .ok (.aload_n 0, 1) := by decide +kernel
theorem d14_35_104 : decode prog_14_method_35_code 104 = .ok (.iconst 2, 1) := by decide +kernel
theorem d14_35_105 : decode prog_14_method_35_code 105 = .ok (.invokevirtual 150, 3) := by decide +kernel
theorem d14_35_108 : decode prog_14_method_35_code 108 = .ok (.iload_n 2, 1) := by decide +kernel
theorem d14_35_109 : decode prog_14_method_35_code 109 = .ok (.if_icmp .ge 11, 3) := by decide +kernel
theorem d14_35_112 : decode prog_14_method_35_code 112 = .ok (.aload_n 0, 1) := by decide +kernel
theorem d14_35_113 : decode prog_14_method_35_code 113 = .ok (.iconst 5, 1) := by decide +kernel
theorem d14_35_114 : decode prog_14_method_35_code 114 = .ok (.putfield 156, 3) := by decide +kernel
theorem d14_35_117 : decode prog_14_method_35_code 117 = .ok (.goto 44, 3) := by decide +kernel
theorem d14_35_120 : decode prog_14_method_35_code 120 = .ok (.aload_n 0, 1) := by decide +kernel
theorem d14_35_121 : decode prog_14_method_35_code 121 = .ok (.iload_n 1, 1) := by decide +kernel
theorem d14_35_122 : decode prog_14_method_35_code 122 = .ok (.iload_n 2, 1) := by decide +kernel
theorem d14_35_123 : decode prog_14_method_35_code 123 = .ok (.aload_n 0, 1) := by decide +kernel
theorem d14_35_124 : decode prog_14_method_35_code 124 = .ok (.iconst 2, 1) := by decide +kernel
theorem d14_35_125 : decode prog_14_method_35_code 125 = .ok (.invokevirtual 150, 3) := by decide +kernel
theorem d14_35_128 : decode prog_14_method_35_code 128 = .ok (.invokevirtual 174, 3) := by decide +kernel
theorem d14_35_131 : decode prog_14_method_35_code 131 = .ok (.aload_n 0, 1) := by decide +kernel
theorem d14_35_132 : decode prog_14_method_35_code 132 = .ok (.aload_n 0, 1) := by decide +kernel
theorem d14_35_133 : decode prog_14_method_35_code 133 = .ok (.getfield 133, 3) := by decide +kernel
theorem d14_35_136 : decode prog_14_method_35_code 136 = .ok (.iconst 3, 1) := by decide +kernel
theorem d14_35_137 : decode prog_14_method_35_code 137 = .ok (.iadd, 1) := by decide +kernel
theorem d14_35_138 : decode prog_14_method_35_code 138 = .ok (.putfield 133, 3) := by decide +kernel
theorem d14_35_141 : decode prog_14_method_35_code 141 = .ok (.goto 20, 3) := by decide +kernel
theorem d14_35_144 : decode prog_14_method_35_code 144 = .ok (.aload_n 0, 1) := by decide +kernel
theorem d14_35_145 : decode prog_14_method_35_code 145 = .ok (.iload_n 1, 1) := by decide +kernel
theorem d14_35_146 : decode prog_14_method_35_code 146 = .ok (.iload_n 2, 1) := by decide +kernel
theorem d14_35_147 : decode prog_14_method_35_code 147 = .ok (.iload_n 2, 1) := by decide +kernel
theorem d14_35_148 : decode prog_14_method_35_code 148 = .ok (.invokevirtual 174, 3) := by decide +kernel
theorem d14_35_151 : decode prog_14_method_35_code 151 = .ok (.aload_n 0, 1) := by decide +kernel
theorem d14_35_152 : decode prog_14_method_35_code 152 = .ok (.aload_n 0, 1) := by decide +kernel
theorem d14_35_153 : decode prog_14_method_35_code 153 = .ok (.getfield 133, 3) := by decide +kernel
theorem d14_35_156 : decode prog_14_method_35_code 156 = .ok (.iconst 1, 1) := by decide +kernel
theorem d14_35_157 : decode prog_14_method_35_code 157 = .ok (.iadd, 1) := by decide +kernel
theorem d14_35_158 : decode prog_14_method_35_code 158 = .ok (.putfield 133, 3) := by decide +kernel
theorem d14_35_161 : decode prog_14_method_35_code 161 = .ok (.return_, 1) := by decide +kernel
