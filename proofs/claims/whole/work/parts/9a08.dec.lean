theorem d14_36_0 : decode prog_14_method_36_code 0 = .ok (.aload_n 0, 1) := by decide +kernel
theorem d14_36_1 : decode prog_14_method_36_code 1 = .ok (.iconst 0, 1) := by decide +kernel
theorem d14_36_2 : decode prog_14_method_36_code 2 = .ok (.invokevirtual 150, 3) := by decide +kernel
theorem d14_36_5 : decode prog_14_method_36_code 5 = .ok (.bipush 94, 2) := by decide +kernel
theorem d14_36_7 : decode prog_14_method_36_code 7 = .ok (.if_icmp .ne 7, 3) := by decide +kernel
theorem d14_36_10 : decode prog_14_method_36_code 10 = .ok (.iconst 1, 1) := by decide +kernel
theorem d14_36_11 : decode prog_14_method_36_code 11 = .ok (.goto 4, 3) := by decide +kernel
theorem d14_36_14 : decode prog_14_method_36_code 14 = .ok (.iconst 0, 1) := by decide +kernel
theorem d14_36_15 : decode prog_14_method_36_code 15 = .ok (.istore_n 1, 1) := by decide +kernel
theorem d14_36_16 : decode prog_14_method_36_code 16 = .ok (.aload_n 0, 1) := by decide +kernel
theorem d14_36_17 : decode prog_14_method_36_code 17 = .ok (.iload_n 1, 1) := by decide +kernel
theorem d14_36_18 : decode prog_14_method_36_code 18 = .ok (.ifCond .eq 12, 3) := by decide +kernel
theorem d14_36_21 : decode prog_14_method_36_code 21 = .ok (.aload_n 0, 1) := by decide +kernel
theorem d14_36_22 : decode prog_14_method_36_code 22 = .ok (.getfield 133, 3) := by decide +kernel
theorem d14_36_25 : decode prog_14_method_36_code 25 = .ok (.iconst 1, 1) := by decide +kernel
theorem d14_36_26 : decode prog_14_method_36_code 26 = .ok (.iadd, 1) := by decide +kernel
theorem d14_36_27 : decode prog_14_method_36_code 27 = .ok (.goto 7, 3) := by decide +kernel
theorem d14_36_30 : decode prog_14_method_36_code 30 = .ok (.aload_n 0, 1) := by decide +kernel
theorem d14_36_31 : decode prog_14_method_36_code 31 = .ok (.getfield 133, 3) := by decide +kernel
theorem d14_36_34 : decode prog_14_method_36_code 34 = .ok (.putfield 133, 3) := by decide +kernel
theorem d14_36_37 : decode prog_14_method_36_code 37 = .ok (.aload_n 0, 1) := by decide +kernel
theorem d14_36_38 : decode prog_14_method_36_code 38 = .ok (.iconst 1, 1) := by decide +kernel
theorem d14_36_39 : decode prog_14_method_36_code 39 = .ok (.iconst 1, 1) := by decide +kernel
theorem d14_36_40 : decode prog_14_method_36_code 40 = .ok (.invokevirtual 146, 3) := by decide +kernel
theorem d14_36_43 : decode prog_14_method_36_code 43 = .ok (.istore_n 2, 1) := by decide +kernel
theorem d14_36_44 : decode prog_14_method_36_code 44 = .ok (.iconst 1, 1) := by decide +kernel
theorem d14_36_45 : decode prog_14_method_36_code 45 = .ok (.istore_n 3, 1) := by decide +kernel
theorem d14_36_46 : decode prog_14_method_36_code 46 = .ok (.aload_n 0, 1) := by decide +kernel
theorem d14_36_47 : decode prog_14_method_36_code 47 = .ok (.getfield 156, 3) := by decide +kernel
theorem d14_36_50 : decode prog_14_method_36_code 50 = .ok (.ifCond .ne 38, 3) := by decide +kernel
theorem d14_36_53 : decode prog_14_method_36_code 53 = .ok (.aload_n 0, 1) := by decide +kernel
theorem d14_36_54 : decode prog_14_method_36_code 54 = .ok (.getfield 133, 3) := by decide +kernel
theorem d14_36_57 : decode prog_14_method_36_code 57 = .ok (.aload_n 0, 1) := by decide +kernel
theorem d14_36_58 : decode prog_14_method_36_code 58 = .ok (.getfield 130, 3) := by decide +kernel
theorem d14_36_61 : decode prog_14_method_36_code 61 = .ok (.if_icmp .ge 27, 3) := by decide +kernel
theorem d14_36_64 : decode prog_14_method_36_code 64 = .ok (.iload_n 3, 1) := by decide +kernel
theorem d14_36_65 : decode prog_14_method_36_code 65 = .ok (.ifCond .ne 13, 3) := by decide +kernel
theorem d14_36_68 : decode prog_14_method_36_code 68 = .ok (.aload_n 0, 1) := by decide +kernel
theorem d14_36_69 : decode prog_14_method_36_code 69 = .ok (.iconst 0, 1) := by decide +kernel
theorem d14_36_70 : decode prog_14_method_36_code 70 = .ok (.invokevirtual 150, 3) := by decide +kernel
theorem d14_36_73 : decode prog_14_method_36_code 73 = .ok (.bipush 93, 2) := by decide +kernel
theorem d14_36_75 : decode prog_14_method_36_code 75 = .ok (.if_icmp .eq 13, 3) := by decide +kernel
theorem d14_36_78 : decode prog_14_method_36_code 78 = .ok (.aload_n 0, 1) := by decide +kernel
theorem d14_36_79 : decode prog_14_method_36_code 79 = .ok (.iload_n 2, 1) := by decide +kernel
theorem d14_36_80 : decode prog_14_method_36_code 80 = .ok (.invokevirtual 181, 3) := by decide +kernel
theorem d14_36_83 : decode prog_14_method_36_code 83 = .ok (.iconst 0, 1) := by decide +kernel
theorem d14_36_84 : decode prog_14_method_36_code 84 = .ok (.istore_n 3, 1) := by decide +kernel
theorem d14_36_85 : decode prog_14_method_36_code 85 = .ok (.goto (-39), 3) := by decide +kernel
theorem d14_36_88 : decode prog_14_method_36_code 88 = .ok (.aload_n 0, 1) := by decide +kernel
theorem d14_36_89 : decode prog_14_method_36_code 89 = .ok (.getfield 156, 3) := by decide +kernel
theorem d14_36_92 : decode prog_14_method_36_code 92 = .ok (.ifCond .ne 19, 3) := by decide +kernel
theorem d14_36_95 : decode prog_14_method_36_code 95 = .ok (.aload_n 0, 1) := by decide +kernel
theorem d14_36_96 : decode prog_14_method_36_code 96 = .ok (.getfield 133, 3) := by decide +kernel
theorem d14_36_99 : decode prog_14_method_36_code 99 = .ok (.aload_n 0, 1) := by decide +kernel
theorem d14_36_100 : decode prog_14_method_36_code 100 = .ok (.getfield 130, 3) := by decide +kernel
theorem d14_36_103 : decode prog_14_method_36_code 103 = .ok (.if_icmp .lt 8, 3) := by decide +kernel
theorem d14_36_106 : decode prog_14_method_36_code 106 = .ok (.aload_n 0, 1) := by decide +kernel
theorem d14_36_107 : decode prog_14_method_36_code 107 = .ok (.iconst 5, 1) := by decide +kernel
theorem d14_36_108 : decode prog_14_method_36_code 108 = .ok (.putfield 156, 3) := by decide +kernel
theorem d14_36_111 : decode prog_14_method_36_code 111 = .ok (.aload_n 0, 1) := by decide +kernel
theorem d14_36_112 : decode prog_14_method_36_code 112 = .ok (.getfield 156, 3) := by decide +kernel
theorem d14_36_115 : decode prog_14_method_36_code 115 = .ok (.ifCond .eq 4, 3) := by decide +kernel
theorem d14_36_118 : decode prog_14_method_36_code 118 = .ok (.return_, 1) := by decide +kernel
theorem d14_36_119 : decode prog_14_method_36_code 119 = .ok (.aload_n 0, 1) := by decide +kernel
theorem d14_36_120 : decode prog_14_method_36_code 120 = .ok (.aload_n 0, 1) := by decide +kernel
theorem d14_36_121 : decode prog_14_method_36_code 121 = .ok (.getfield 133, 3) := by decide +kernel
theorem d14_36_124 : decode prog_14_method_36_code 124 = .ok (.iconst 1, 1) := by decide +kernel
theorem d14_36_125 : decode prog_14_method_36_code 125 = .ok (.iadd, 1) := by decide +kernel
theorem d14_36_126 : decode prog_14_method_36_code 126 = .ok (.putfield 133, 3) := by decide +kernel
theorem d14_36_129 : decode prog_14_method_36_code 129 = .ok (.iconst 0, 1) := by decide +kernel
theorem d14_36_130 : decode prog_14_method_36_code 130 = .ok (.istore 4, 2) := by decide +kernel
theorem d14_36_132 : decode prog_14_method_36_code 132 = .ok (.iload 4, 2) := by decide +kernel
theorem d14_36_134 : decode prog_14_method_36_code 134 = .ok (.bipush 95, 2) := by decide +kernel
theorem d14_36_136 : decode prog_14_method_36_code 136 = .ok (.if_icmp .ge 45, 3) := by decide +kernel
theorem d14_36_139 : decode prog_14_method_36_code 139 = .ok (.iload_n 1, 1) := by decide +kernel
theorem d14_36_140 : decode prog_14_method_36_code 140 = .ok (.ifCond .eq 41, 3) := by decide +kernel
theorem d14_36_143 : decode prog_14_method_36_code 143 = .ok (.aload_n 0, 1) := by decide +kernel
theorem d14_36_144 : decode prog_14_method_36_code 144 = .ok (.getfield 56, 3) := by decide +kernel
theorem d14_36_147 : decode prog_14_method_36_code 147 = .ok (.bipush 95, 2) := by decide +kernel
theorem d14_36_149 : decode prog_14_method_36_code 149 = .ok (.iload_n 2, 1) := by decide +kernel
theorem d14_36_150 : decode prog_14_method_36_code 150 = .ok (.imul, 1) := by decide +kernel
theorem d14_36_151 : decode prog_14_method_36_code 151 = .ok (.iload 4, 2) := by decide +kernel
theorem d14_36_153 : decode prog_14_method_36_code 153 = .ok (.iadd, 1) := by decide +kernel
theorem d14_36_154 : decode prog_14_method_36_code 154 = .ok (.aload_n 0, 1) := by decide +kernel
theorem d14_36_155 : decode prog_14_method_36_code 155 = .ok (.getfield 56, 3) := by decide +kernel
theorem d14_36_158 : decode prog_14_method_36_code 158 = .ok (.bipush 95, 2) := by decide +kernel
theorem d14_36_160 : decode prog_14_method_36_code 160 = .ok (.iload_n 2, 1) := by decide +kernel
theorem d14_36_161 : decode prog_14_method_36_code 161 = .ok (.imul, 1) := by decide +kernel
theorem d14_36_162 : decode prog_14_method_36_code 162 = .ok (.iload 4, 2) := by decide +kernel
theorem d14_36_164 : decode prog_14_method_36_code 164 = .ok (.iadd, 1) := by decide +kernel
theorem d14_36_165 : decode prog_14_method_36_code 165 = .ok (.baload, 1) := by decide +kernel
theorem d14_36_166 : decode prog_14_method_36_code 166 = .ok (.ifCond .ne 7, 3) := by decide +kernel
theorem d14_36_169 : decode prog_14_method_36_code 169 = .ok (.iconst 1, 1) := by decide +kernel
theorem d14_36_170 : decode prog_14_method_36_code 170 = .ok (.goto 4, 3) := by decide +kernel
theorem d14_36_173 : decode prog_14_method_36_code 173 = .ok (.iconst 0, 1) := by decide +kernel
theorem d14_36_174 : decode prog_14_method_36_code 174 = .ok (.bastore, 1) := by decide +kernel
theorem d14_36_175 : decode prog_14_method_36_code 175 = .ok (.iinc 4 1, 3) := by decide +kernel
theorem d14_36_178 : decode prog_14_method_36_code 178 = .ok (.goto (-46), 3) := by decide +kernel
theorem d14_36_181 : decode prog_14_method_36_code 181 = .ok (.aload_n 0, 1) := by decide +kernel
theorem d14_36_182 : decode prog_14_method_36_code 182 = .ok (.iload_n 2, 1) := by decide +kernel
theorem d14_36_183 : decode prog_14_method_36_code 183 = .ok (.invokevirtual 166, 3) := by decide +kernel
theorem d14_36_186 : decode prog_14_method_36_code 186 = .ok (.return_, 1) := by decide +kernel
