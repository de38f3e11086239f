theorem d8_4_0 : decode prog_8_method_4_code 0 = .ok (.iload_n 1, 1) := by decide +kernel
theorem d8_4_1 : decode prog_8_method_4_code 1 = .ok (.bipush 40, 2) := by decide +kernel
theorem d8_4_3 : decode prog_8_method_4_code 3 = .ok (.if_icmp .ne 10, 3) := by decide +kernel
theorem d8_4_6 : decode prog_8_method_4_code 6 = .ok (.aload_n 0, 1) := by decide +kernel
theorem d8_4_7 : decode prog_8_method_4_code 7 = .ok (.invokevirtual 63, 3) := by decide +kernel
theorem d8_4_10 : decode prog_8_method_4_code 10 = .ok (.goto 150, 3) := by decide +kernel
theorem d8_4_13 : decode prog_8_method_4_code 13 = .ok (.iload_n 1, 1) := by decide +kernel
theorem d8_4_14 : decode prog_8_method_4_code 14 = .ok (.bipush 41, 2) := by decide +kernel
theorem d8_4_16 : decode prog_8_method_4_code 16 = .ok (.if_icmp .ne 10, 3) := by decide +kernel
theorem d8_4_19 : decode prog_8_method_4_code 19 = .ok (.aload_n 0, 1) := by decide +kernel
theorem d8_4_20 : decode prog_8_method_4_code 20 = .ok (.invokevirtual 66, 3) := by decide +kernel
theorem d8_4_23 : decode prog_8_method_4_code 23 = .ok (.goto 137, 3) := by decide +kernel
theorem d8_4_26 : decode prog_8_method_4_code 26 = .ok (.iload_n 1, 1) := by decide +kernel
theorem d8_4_27 : decode prog_8_method_4_code 27 = .ok (.bipush 124, 2) := by decide +kernel
theorem d8_4_29 : decode prog_8_method_4_code 29 = .ok (.if_icmp .ne 10, 3) := by decide +kernel
theorem d8_4_32 : decode prog_8_method_4_code 32 = .ok (.aload_n 0, 1) := by decide +kernel
theorem d8_4_33 : decode prog_8_method_4_code 33 = .ok (.invokevirtual 69, 3) := by decide +kernel
theorem d8_4_36 : decode prog_8_method_4_code 36 = .ok (.goto 124, 3) := by decide +kernel
theorem d8_4_39 : decode prog_8_method_4_code 39 = .ok (.iload_n 1, 1) := by decide +kernel
theorem d8_4_40 : decode prog_8_method_4_code 40 = .ok (.bipush 42, 2) := by decide +kernel
theorem d8_4_42 : decode prog_8_method_4_code 42 = .ok (.if_icmp .eq 21, 3) := by decide +kernel
theorem d8_4_45 : decode prog_8_method_4_code 45 = .ok (.iload_n 1, 1) := by decide +kernel
theorem d8_4_46 : decode prog_8_method_4_code 46 = .ok (.bipush 43, 2) := by decide +kernel
theorem d8_4_48 : decode prog_8_method_4_code 48 = .ok (.if_icmp .eq 15, 3) := by decide +kernel
theorem d8_4_51 : decode prog_8_method_4_code 51 = .ok (.iload_n 1, 1) := by decide +kernel
theorem d8_4_52 : decode prog_8_method_4_code 52 = .ok (.bipush 63, 2) := by decide +kernel
theorem d8_4_54 : decode prog_8_method_4_code 54 = .ok (.if_icmp .eq 9, 3) := by decide +kernel
theorem d8_4_57 : decode prog_8_method_4_code 57 = .ok (.iload_n 1, 1) := by decide +kernel
theorem d8_4_58 : decode prog_8_method_4_code 58 = .ok (.bipush 123, 2) := by decide +kernel
theorem d8_4_60 : decode prog_8_method_4_code 60 = .ok (.if_icmp .ne 11, 3) := by decide +kernel
theorem d8_4_63 : decode prog_8_method_4_code 63 = .ok (.aload_n 0, 1) := by decide +kernel
theorem d8_4_64 : decode prog_8_method_4_code 64 = .ok (.iload_n 1, 1) := by decide +kernel
theorem d8_4_65 : decode prog_8_method_4_code 65 = .ok (.invokevirtual 72, 3) := by decide +kernel
theorem d8_4_68 : decode prog_8_method_4_code 68 = .ok (.goto 92, 3) := by decide +kernel
theorem d8_4_71 : decode prog_8_method_4_code 71 = .ok (.iload_n 1, 1) := by decide +kernel
theorem d8_4_72 : decode prog_8_method_4_code 72 = .ok (.bipush 92, 2) := by decide +kernel
theorem d8_4_74 : decode prog_8_method_4_code 74 = .ok (.if_icmp .ne 10, 3) := by decide +kernel
theorem d8_4_77 : decode prog_8_method_4_code 77 = .ok (.aload_n 0, 1) := by decide +kernel
theorem d8_4_78 : decode prog_8_method_4_code 78 = .ok (.invokevirtual 75, 3) := by decide +kernel
theorem d8_4_81 : decode prog_8_method_4_code 81 = .ok (.goto 79, 3) := by decide +kernel
theorem d8_4_84 : decode prog_8_method_4_code 84 = .ok (.iload_n 1, 1) := by decide +kernel
theorem d8_4_85 : decode prog_8_method_4_code 85 = .ok (.bipush 94, 2) := by decide +kernel
theorem d8_4_87 : decode prog_8_method_4_code 87 = .ok (.if_icmp .eq 9, 3) := by decide +kernel
theorem d8_4_90 : decode prog_8_method_4_code 90 = .ok (.iload_n 1, 1) := by decide +kernel
theorem d8_4_91 : decode prog_8_method_4_code 91 = .ok (.bipush 36, 2) := by decide +kernel
theorem d8_4_93 : decode prog_8_method_4_code 93 = .ok (.if_icmp .ne 31, 3) := by decide +kernel
theorem d8_4_96 : decode prog_8_method_4_code 96 = .ok (.aload_n 0, 1) := by decide +kernel
theorem d8_4_97 : decode prog_8_method_4_code 97 = .ok (.invokevirtual 78, 3) := by decide +kernel
theorem d8_4_100 : decode prog_8_method_4_code 100 = .ok (.new 82, 3) := by decide +kernel
theorem d8_4_103 : decode prog_8_method_4_code 103 = .ok (.dup, 1) := by decide +kernel
theorem d8_4_104 : decode prog_8_method_4_code 104 = .ok (.iload_n 1, 1) := by decide +kernel
theorem d8_4_105 : decode prog_8_method_4_code 105 = .ok (.bipush 94, 2) := by decide +kernel
theorem d8_4_107 : decode prog_8_method_4_code 107 = .ok (.if_icmp .ne 7, 3) := by decide +kernel
theorem d8_4_110 : decode prog_8_method_4_code 110 = .ok (.iconst 1, 1) := by decide +kernel
theorem d8_4_111 : decode prog_8_method_4_code 111 = .ok (.goto 4, 3) := by decide +kernel
theorem d8_4_114 : decode prog_8_method_4_code 114 = .ok (.iconst 0, 1) := by decide +kernel
theorem d8_4_115 : decode prog_8_method_4_code 115 = .ok (.invokespecial 84, 3) := by decide +kernel
theorem d8_4_118 : decode prog_8_method_4_code 118 = .ok (.invokevirtual 87, 3) := by decide +kernel
theorem d8_4_121 : decode prog_8_method_4_code 121 = .ok (.goto 39, 3) := by decide +kernel
theorem d8_4_124 : decode prog_8_method_4_code 124 = .ok (.iload_n 1, 1) := by decide +kernel
theorem d8_4_125 : decode prog_8_method_4_code 125 = .ok (.bipush 46, 2) := by decide +kernel
theorem d8_4_127 : decode prog_8_method_4_code 127 = .ok (.if_icmp .ne 14, 3) := by decide +kernel
theorem d8_4_130 : decode prog_8_method_4_code 130 = .ok (.aload_n 0, 1) := by decide +kernel
theorem d8_4_131 : decode prog_8_method_4_code 131 = .ok (.bipush 32, 2) := by decide +kernel
theorem d8_4_133 : decode prog_8_method_4_code 133 = .ok (.bipush 126, 2) := by decide +kernel
theorem d8_4_135 : decode prog_8_method_4_code 135 = .ok (.invokevirtual 91, 3) := by decide +kernel
theorem d8_4_138 : decode prog_8_method_4_code 138 = .ok (.goto 22, 3) := by decide +kernel
theorem d8_4_141 : decode prog_8_method_4_code 141 = .ok (.iload_n 1, 1) := by decide +kernel
theorem d8_4_142 : decode prog_8_method_4_code 142 = .ok (.bipush 91, 2) := by decide +kernel
theorem d8_4_144 : decode prog_8_method_4_code 144 = .ok (.if_icmp .ne 10, 3) := by decide +kernel
theorem d8_4_147 : decode prog_8_method_4_code 147 = .ok (.aload_n 0, 1) := by decide +kernel
theorem d8_4_148 : decode prog_8_method_4_code 148 = .ok (.invokevirtual 95, 3) := by decide +kernel
theorem d8_4_151 : decode prog_8_method_4_code 151 = .ok (.goto 9, 3) := by decide +kernel
theorem d8_4_154 : decode prog_8_method_4_code 154 = .ok (.aload_n 0, 1) := by decide +kernel
theorem d8_4_155 : decode prog_8_method_4_code 155 = .ok (.iload_n 1, 1) := by decide +kernel
theorem d8_4_156 : decode prog_8_method_4_code 156 = .ok (.iload_n 1, 1) := by decide +kernel
theorem d8_4_157 : decode prog_8_method_4_code 157 = .ok (.invokevirtual 91, 3) := by decide +kernel
theorem d8_4_160 : decode prog_8_method_4_code 160 = .ok (.return_, 1) := by decide +kernel
