theorem d14_28_0 : decode prog_14_method_28_code 0 = .ok (.aload_n 0, 1) := by decide +kernel
theorem d14_28_1 : decode prog_14_method_28_code 1 = .ok (.iconst 0, 1) := by decide +kernel
theorem d14_28_2 : decode prog_14_method_28_code 2 = .ok (.invokevirtual 150, 3) := by decide +kernel
theorem d14_28_5 : decode prog_14_method_28_code 5 = .ok (.bipush 48, 2) := by decide +kernel
theorem d14_28_7 : decode prog_14_method_28_code 7 = .ok (.isub, 1) := by decide +kernel
theorem d14_28_8 : decode prog_14_method_28_code 8 = .ok (.istore_n 1, 1) := by decide +kernel
theorem d14_28_9 : decode prog_14_method_28_code 9 = .ok (.aload_n 0, 1) := by decide +kernel
theorem d14_28_10 : decode prog_14_method_28_code 10 = .ok (.iconst 0, 1) := by decide +kernel
theorem d14_28_11 : decode prog_14_method_28_code 11 = .ok (.invokevirtual 150, 3) := by decide +kernel
theorem d14_28_14 : decode prog_14_method_28_code 14 = .ok (.invokestatic 153, 3) := by decide +kernel
theorem d14_28_17 : decode prog_14_method_28_code 17 = .ok (.ifCond .ne 11, 3) := by decide +kernel
theorem d14_28_20 : decode prog_14_method_28_code 20 = .ok (.aload_n 0, 1) := by decide +kernel
theorem d14_28_21 : decode prog_14_method_28_code 21 = .ok (.iconst 4, 1) := by decide +kernel
theorem d14_28_22 : decode prog_14_method_28_code 22 = .ok (.putfield 156, 3) := by decide +kernel
theorem d14_28_25 : decode prog_14_method_28_code 25 = .ok (.goto 145, 3) := by decide +kernel
theorem d14_28_28 : decode prog_14_method_28_code 28 = .ok (.aload_n 0, 1) := by decide +kernel
theorem d14_28_29 : decode prog_14_method_28_code 29 = .ok (.iconst 1, 1) := by decide +kernel
theorem d14_28_30 : decode prog_14_method_28_code 30 = .ok (.invokevirtual 150, 3) := by decide +kernel
theorem d14_28_33 : decode prog_14_method_28_code 33 = .ok (.bipush 125, 2) := by decide +kernel
theorem d14_28_35 : decode prog_14_method_28_code 35 = .ok (.if_icmp .ne 22, 3) := by decide +kernel
theorem d14_28_38 : decode prog_14_method_28_code 38 = .ok (.aload_n 0, 1) := by decide +kernel
theorem d14_28_39 : decode prog_14_method_28_code 39 = .ok (.iload_n 1, 1) := by decide +kernel
theorem d14_28_40 : decode prog_14_method_28_code 40 = .ok (.iload_n 1, 1) := by decide +kernel
theorem d14_28_41 : decode prog_14_method_28_code 41 = .ok (.invokevirtual 159, 3) := by decide +kernel
theorem d14_28_44 : decode prog_14_method_28_code 44 = .ok (.aload_n 0, 1) := by decide +kernel
theorem d14_28_45 : decode prog_14_method_28_code 45 = .ok (.aload_n 0, 1) := by decide +kernel
theorem d14_28_46 : decode prog_14_method_28_code 46 = .ok (.getfield 133, 3) := by decide +kernel
theorem d14_28_49 : decode prog_14_method_28_code 49 = .ok (.iconst 2, 1) := by decide +kernel
theorem d14_28_50 : decode prog_14_method_28_code 50 = .ok (.iadd, 1) := by decide +kernel
theorem d14_28_51 : decode prog_14_method_28_code 51 = .ok (.putfield 133, 3) := by decide +kernel
theorem d14_28_54 : decode prog_14_method_28_code 54 = .ok (.goto 116, 3) := by decide +kernel
theorem d14_28_57 : decode prog_14_method_28_code 57 = .ok (.aload_n 0, 1) := by decide +kernel
theorem d14_28_58 : decode prog_14_method_28_code 58 = .ok (.iconst 1, 1) := by decide +kernel
theorem d14_28_59 : decode prog_14_method_28_code 59 = .ok (.invokevirtual 150, 3) := by decide +kernel
theorem d14_28_62 : decode prog_14_method_28_code 62 = .ok (.bipush 44, 2) := by decide +kernel
theorem d14_28_64 : decode prog_14_method_28_code 64 = .ok (.if_icmp .ne 32, 3) := by decide +kernel
theorem d14_28_67 : decode prog_14_method_28_code 67 = .ok (.aload_n 0, 1) := by decide +kernel
theorem d14_28_68 : decode prog_14_method_28_code 68 = .ok (.iconst 2, 1) := by decide +kernel
theorem d14_28_69 : decode prog_14_method_28_code 69 = .ok (.invokevirtual 150, 3) := by decide +kernel
theorem d14_28_72 : decode prog_14_method_28_code 72 = .ok (.bipush 125, 2) := by decide +kernel
theorem d14_28_74 : decode prog_14_method_28_code 74 = .ok (.if_icmp .ne 22, 3) := by decide +kernel
theorem d14_28_77 : decode prog_14_method_28_code 77 = .ok (.aload_n 0, 1) := by decide +kernel
theorem d14_28_78 : decode prog_14_method_28_code 78 = .ok (.iload_n 1, 1) := by decide +kernel
theorem d14_28_79 : decode prog_14_method_28_code 79 = .ok (.iconst (-1), 1) := by decide +kernel
theorem d14_28_80 : decode prog_14_method_28_code 80 = .ok (.invokevirtual 159, 3) := by decide +kernel
theorem d14_28_83 : decode prog_14_method_28_code 83 = .ok (.aload_n 0, 1) := by decide +kernel
theorem d14_28_84 : decode prog_14_method_28_code 84 = .ok (.aload_n 0, 1) := by decide +kernel
theorem d14_28_85 : decode prog_14_method_28_code 85 = .ok (.getfield 133, 3) := by decide +kernel
theorem d14_28_88 : decode prog_14_method_28_code 88 = .ok (.iconst 3, 1) := by decide +kernel
theorem d14_28_89 : decode prog_14_method_28_code 89 = .ok (.iadd, 1) := by decide +kernel
theorem d14_28_90 : decode prog_14_method_28_code 90 = .ok (.putfield 133, 3) := by decide +kernel
theorem d14_28_93 : decode prog_14_method_28_code 93 = .ok (.goto 77, 3) := by decide +kernel
theorem d14_28_96 : decode prog_14_method_28_code 96 = .ok (.aload_n 0, 1) := by decide +kernel
theorem d14_28_97 : decode prog_14_method_28_code 97 = .ok (.iconst 1, 1) := by decide +kernel
theorem d14_28_98 : decode prog_14_method_28_code 98 = .ok (.invokevirtual 150, 3) := by decide +kernel
theorem d14_28_101 : decode prog_14_method_28_code 101 = .ok (.bipush 44, 2) := by decide +kernel
theorem d14_28_103 : decode prog_14_method_28_code 103 = .ok (.if_icmp .ne 62, 3) := by decide +kernel
theorem d14_28_106 : decode prog_14_method_28_code 106 = .ok (.aload_n 0, 1) := by decide +kernel
theorem d14_28_107 : decode prog_14_method_28_code 107 = .ok (.iconst 2, 1) := by decide +kernel
theorem d14_28_108 : decode prog_14_method_28_code 108 = .ok (.invokevirtual 150, 3) := by decide +kernel
theorem d14_28_111 : decode prog_14_method_28_code 111 = .ok (.invokestatic 153, 3) := by decide +kernel
theorem d14_28_114 : decode prog_14_method_28_code 114 = .ok (.ifCond .eq 51, 3) := by decide +kernel
theorem d14_28_117 : decode prog_14_method_28_code 117 = .ok (.aload_n 0, 1) := by decide +kernel
theorem d14_28_118 : decode prog_14_method_28_code 118 = .ok (.iconst 2, 1) := by decide +kernel
theorem d14_28_119 : decode prog_14_method_28_code 119 = .ok (.invokevirtual 150, 3) := by decide +kernel
theorem d14_28_122 : decode prog_14_method_28_code 122 = .ok (.bipush 48, 2) := by decide +kernel
theorem d14_28_124 : decode prog_14_method_28_code 124 = .ok (.isub, 1) := by decide +kernel
theorem d14_28_125 : decode prog_14_method_28_code 125 = .ok (.iload_n 1, 1) := by decide +kernel
theorem d14_28_126 : decode prog_14_method_28_code 126 = .ok (.if_icmp .lt 39, 3) := by decide +kernel
theorem d14_28_129 : decode prog_14_method_28_code 129 = .ok (.aload_n 0, 1) := by decide +kernel
theorem d14_28_130 : decode prog_14_method_28_code 130 = .ok (.iconst 3, 1) := by decide +kernel
theorem d14_28_131 : decode prog_14_method_28_code 131 = .ok (.invokevirtual 150, 3) := by decide +kernel
theorem d14_28_134 : decode prog_14_method_28_code 134 = .ok (.bipush 125, 2) := by decide +kernel
theorem d14_28_136 : decode prog_14_method_28_code 136 = .ok (.if_icmp .ne 29, 3) := by decide +kernel
theorem d14_28_139 : decode prog_14_method_28_code 139 = .ok (.aload_n 0, 1) := by decide +kernel
theorem d14_28_140 : decode prog_14_method_28_code 140 = .ok (.iload_n 1, 1) := by decide +kernel
theorem d14_28_141 : decode prog_14_method_28_code 141 = .ok (.aload_n 0, 1) := by decide +kernel
theorem d14_28_142 : decode prog_14_method_28_code 142 = .ok (.iconst 2, 1) := by decide +kernel
theorem d14_28_143 : decode prog_14_method_28_code 143 = .ok (.invokevirtual 150, 3) := by decide +kernel
theorem d14_28_146 : decode prog_14_method_28_code 146 = .ok (.bipush 48, 2) := by decide +kernel
theorem d14_28_148 : decode prog_14_method_28_code 148 = .ok (.isub, 1) := by decide +kernel
theorem d14_28_149 : decode prog_14_method_28_code 149 = .ok (.invokevirtual 159, 3) := by decide +kernel
theorem d14_28_152 : decode prog_14_method_28_code 152 = .ok (.aload_n 0, 1) := by decide +kernel
theorem d14_28_153 : decode prog_14_method_28_code 153 = .ok (.aload_n 0, 1) := by decide +kernel
theorem d14_28_154 : decode prog_14_method_28_code 154 = .ok (.getfield 133, 3) := by decide +kernel
theorem d14_28_157 : decode prog_14_method_28_code 157 = .ok (.iconst 4, 1) := by decide +kernel
theorem d14_28_158 : decode prog_14_method_28_code 158 = .ok (.iadd, 1) := by decide +kernel
theorem d14_28_159 : decode prog_14_method_28_code 159 = .ok (.putfield 133, 3) := by decide +kernel
theorem d14_28_162 : decode prog_14_method_28_code 162 = .ok (.goto 8, 3) := by decide +kernel
theorem d14_28_165 : decode prog_14_method_28_code 165 = .ok (.aload_n 0, 1) := by decide +kernel
theorem d14_28_166 : decode prog_14_method_28_code 166 = .ok (.iconst 4, 1) := by decide +kernel
theorem d14_28_167 : decode prog_14_method_28_code 167 = .ok (.putfield 156, 3) := by decide +kernel
theorem d14_28_170 : decode prog_14_method_28_code 170 = .ok (.return_, 1) := by decide +kernel
