theorem d14_51_0 : decode prog_14_method_51_code 0 = .ok (.iconst 1, 1) := by decide +kernel
theorem d14_51_1 : decode prog_14_method_51_code 1 = .ok (.istore_n 3, 1) := by decide +kernel
theorem d14_51_2 : decode prog_14_method_51_code 2 = .ok (.aload_n 0, 1) := by decide +kernel
theorem d14_51_3 : decode prog_14_method_51_code 3 = .ok (.iconst 1, 1) := by decide +kernel
theorem d14_51_4 : decode prog_14_method_51_code 4 = .ok (.putfield 232, 3) := by decide +kernel
theorem d14_51_7 : decode prog_14_method_51_code 7 = .ok (.aload_n 0, 1) := by decide +kernel
theorem d14_51_8 : decode prog_14_method_51_code 8 = .ok (.bipush 30, 2) := by decide +kernel
theorem d14_51_10 : decode prog_14_method_51_code 10 = .ok (.invokevirtual 236, 3) := by decide +kernel
theorem d14_51_13 : decode prog_14_method_51_code 13 = .ok (.aload_n 0, 1) := by decide +kernel
theorem d14_51_14 : decode prog_14_method_51_code 14 = .ok (.getfield 38, 3) := by decide +kernel
theorem d14_51_17 : decode prog_14_method_51_code 17 = .ok (.iload_n 1, 1) := by decide +kernel
theorem d14_51_18 : decode prog_14_method_51_code 18 = .ok (.iaload, 1) := by decide +kernel
theorem d14_51_19 : decode prog_14_method_51_code 19 = .ok (.istore 4, 2) := by decide +kernel
theorem d14_51_21 : decode prog_14_method_51_code 21 = .ok (.aload_n 0, 1) := by decide +kernel
theorem d14_51_22 : decode prog_14_method_51_code 22 = .ok (.getfield 35, 3) := by decide +kernel
theorem d14_51_25 : decode prog_14_method_51_code 25 = .ok (.iload_n 1, 1) := by decide +kernel
theorem d14_51_26 : decode prog_14_method_51_code 26 = .ok (.iaload, 1) := by decide +kernel
theorem d14_51_27 : decode prog_14_method_51_code 27 = .ok (.iconst 4, 1) := by decide +kernel
theorem d14_51_28 : decode prog_14_method_51_code 28 = .ok (.if_icmp .ne 12, 3) := by decide +kernel
theorem d14_51_31 : decode prog_14_method_51_code 31 = .ok (.aload_n 0, 1) := by decide +kernel
theorem d14_51_32 : decode prog_14_method_51_code 32 = .ok (.getfield 47, 3) := by decide +kernel
theorem d14_51_35 : decode prog_14_method_51_code 35 = .ok (.iload_n 1, 1) := by decide +kernel
theorem d14_51_36 : decode prog_14_method_51_code 36 = .ok (.iaload, 1) := by decide +kernel
theorem d14_51_37 : decode prog_14_method_51_code 37 = .ok (.goto 5, 3) := by decide +kernel
theorem d14_51_40 : decode prog_14_method_51_code 40 = .ok (.bipush 30, 2) := by decide +kernel
theorem d14_51_42 : decode prog_14_method_51_code 42 = .ok (.istore 5, 2) := by decide +kernel
theorem d14_51_44 : decode prog_14_method_51_code 44 = .ok (.iconst 0, 1) := by decide +kernel
theorem d14_51_45 : decode prog_14_method_51_code 45 = .ok (.istore 6, 2) := by decide +kernel
theorem d14_51_47 : decode prog_14_method_51_code 47 = .ok (.iload 6, 2) := by decide +kernel
theorem d14_51_49 : decode prog_14_method_51_code 49 = .ok (.iload 5, 2) := by decide +kernel
theorem d14_51_51 : decode prog_14_method_51_code 51 = .ok (.if_icmp .ge 158, 3) := by decide +kernel
theorem d14_51_54 : decode prog_14_method_51_code 54 = .ok (.iload 4, 2) := by decide +kernel
theorem d14_51_56 : decode prog_14_method_51_code 56 = .ok (.ifCond .lt 153, 3) := by decide +kernel
theorem d14_51_59 : decode prog_14_method_51_code 59 = .ok (.aload_n 0, 1) := by decide +kernel
theorem d14_51_60 : decode prog_14_method_51_code 60 = .ok (.getfield 71, 3) := by decide +kernel
theorem d14_51_63 : decode prog_14_method_51_code 63 = .ok (.iload 4, 2) := by decide +kernel
theorem d14_51_65 : decode prog_14_method_51_code 65 = .ok (.baload, 1) := by decide +kernel
theorem d14_51_66 : decode prog_14_method_51_code 66 = .ok (.ifCond .eq 18, 3) := by decide +kernel
theorem d14_51_69 : decode prog_14_method_51_code 69 = .ok (.aload_n 0, 1) := by decide +kernel
theorem d14_51_70 : decode prog_14_method_51_code 70 = .ok (.bipush 30, 2) := by decide +kernel
theorem d14_51_72 : decode prog_14_method_51_code 72 = .ok (.iload 4, 2) := by decide +kernel
theorem d14_51_74 : decode prog_14_method_51_code 74 = .ok (.invokevirtual 239, 3) := by decide +kernel
theorem d14_51_77 : decode prog_14_method_51_code 77 = .ok (.ifCond .eq 7, 3) := by decide +kernel
theorem d14_51_80 : decode prog_14_method_51_code 80 = .ok (.iconst 1, 1) := by decide +kernel
theorem d14_51_81 : decode prog_14_method_51_code 81 = .ok (.goto 4, 3) := by decide +kernel
theorem d14_51_84 : decode prog_14_method_51_code 84 = .ok (.iconst 0, 1) := by decide +kernel
theorem d14_51_85 : decode prog_14_method_51_code 85 = .ok (.istore 7, 2) := by decide +kernel
theorem d14_51_87 : decode prog_14_method_51_code 87 = .ok (.iload 7, 2) := by decide +kernel
theorem d14_51_89 : decode prog_14_method_51_code 89 = .ok (.ifCond .eq 14, 3) := by decide +kernel
theorem d14_51_92 : decode prog_14_method_51_code 92 = .ok (.aload_n 0, 1) := by decide +kernel
theorem d14_51_93 : decode prog_14_method_51_code 93 = .ok (.bipush 31, 2) := by decide +kernel
theorem d14_51_95 : decode prog_14_method_51_code 95 = .ok (.bipush 30, 2) := by decide +kernel
theorem d14_51_97 : decode prog_14_method_51_code 97 = .ok (.invokevirtual 243, 3) := by decide +kernel
theorem d14_51_100 : decode prog_14_method_51_code 100 = .ok (.goto 79, 3) := by decide +kernel
theorem d14_51_103 : decode prog_14_method_51_code 103 = .ok (.aload_n 0, 1) := by decide +kernel
theorem d14_51_104 : decode prog_14_method_51_code 104 = .ok (.iconst 0, 1) := by decide +kernel
theorem d14_51_105 : decode prog_14_method_51_code 105 = .ok (.putfield 232, 3) := by decide +kernel
theorem d14_51_108 : decode prog_14_method_51_code 108 = .ok (.iload_n 3, 1) := by decide +kernel
theorem d14_51_109 : decode prog_14_method_51_code 109 = .ok (.ifCond .eq 17, 3) := by decide +kernel
theorem d14_51_112 : decode prog_14_method_51_code 112 = .ok (.aload_n 0, 1) := by decide +kernel
theorem d14_51_113 : decode prog_14_method_51_code 113 = .ok (.iload_n 2, 1) := by decide +kernel
theorem d14_51_114 : decode prog_14_method_51_code 114 = .ok (.bipush 30, 2) := by decide +kernel
theorem d14_51_116 : decode prog_14_method_51_code 116 = .ok (.invokevirtual 246, 3) := by decide +kernel
theorem d14_51_119 : decode prog_14_method_51_code 119 = .ok (.ifCond .eq 7, 3) := by decide +kernel
theorem d14_51_122 : decode prog_14_method_51_code 122 = .ok (.iconst 1, 1) := by decide +kernel
theorem d14_51_123 : decode prog_14_method_51_code 123 = .ok (.goto 4, 3) := by decide +kernel
theorem d14_51_126 : decode prog_14_method_51_code 126 = .ok (.iconst 0, 1) := by decide +kernel
theorem d14_51_127 : decode prog_14_method_51_code 127 = .ok (.istore_n 3, 1) := by decide +kernel
theorem d14_51_128 : decode prog_14_method_51_code 128 = .ok (.aload_n 0, 1) := by decide +kernel
theorem d14_51_129 : decode prog_14_method_51_code 129 = .ok (.getfield 71, 3) := by decide +kernel
theorem d14_51_132 : decode prog_14_method_51_code 132 = .ok (.iload 4, 2) := by decide +kernel
theorem d14_51_134 : decode prog_14_method_51_code 134 = .ok (.baload, 1) := by decide +kernel
theorem d14_51_135 : decode prog_14_method_51_code 135 = .ok (.ifCond .eq 14, 3) := by decide +kernel
theorem d14_51_138 : decode prog_14_method_51_code 138 = .ok (.aload_n 0, 1) := by decide +kernel
theorem d14_51_139 : decode prog_14_method_51_code 139 = .ok (.iload 4, 2) := by decide +kernel
theorem d14_51_141 : decode prog_14_method_51_code 141 = .ok (.bipush 30, 2) := by decide +kernel
theorem d14_51_143 : decode prog_14_method_51_code 143 = .ok (.invokevirtual 243, 3) := by decide +kernel
theorem d14_51_146 : decode prog_14_method_51_code 146 = .ok (.goto 33, 3) := by decide +kernel
theorem d14_51_149 : decode prog_14_method_51_code 149 = .ok (.iload_n 3, 1) := by decide +kernel
theorem d14_51_150 : decode prog_14_method_51_code 150 = .ok (.ifCond .eq 21, 3) := by decide +kernel
theorem d14_51_153 : decode prog_14_method_51_code 153 = .ok (.iload_n 2, 1) := by decide +kernel
theorem d14_51_154 : decode prog_14_method_51_code 154 = .ok (.ifCond .lt 13, 3) := by decide +kernel
theorem d14_51_157 : decode prog_14_method_51_code 157 = .ok (.aload_n 0, 1) := by decide +kernel
theorem d14_51_158 : decode prog_14_method_51_code 158 = .ok (.getfield 83, 3) := by decide +kernel
theorem d14_51_161 : decode prog_14_method_51_code 161 = .ok (.iload 4, 2) := by decide +kernel
theorem d14_51_163 : decode prog_14_method_51_code 163 = .ok (.baload, 1) := by decide +kernel
theorem d14_51_164 : decode prog_14_method_51_code 164 = .ok (.ifCond .eq 7, 3) := by decide +kernel
theorem d14_51_167 : decode prog_14_method_51_code 167 = .ok (.iconst 1, 1) := by decide +kernel
theorem d14_51_168 : decode prog_14_method_51_code 168 = .ok (.goto 4, 3) := by decide +kernel
theorem d14_51_171 : decode prog_14_method_51_code 171 = .ok (.iconst 0, 1) := by decide +kernel
theorem d14_51_172 : decode prog_14_method_51_code 172 = .ok (.istore_n 3, 1) := by decide +kernel
theorem d14_51_173 : decode prog_14_method_51_code 173 = .ok (.aload_n 0, 1) := by decide +kernel
theorem d14_51_174 : decode prog_14_method_51_code 174 = .ok (.bipush 30, 2) := by decide +kernel
theorem d14_51_176 : decode prog_14_method_51_code 176 = .ok (.invokevirtual 236, 3) := by decide +kernel
theorem d14_51_179 : decode prog_14_method_51_code 179 = .ok (.aload_n 0, 1) := by decide +kernel
theorem d14_51_180 : decode prog_14_method_51_code 180 = .ok (.getfield 35, 3) := by decide +kernel
theorem d14_51_183 : decode prog_14_method_51_code 183 = .ok (.iload_n 1, 1) := by decide +kernel
theorem d14_51_184 : decode prog_14_method_51_code 184 = .ok (.iaload, 1) := by decide +kernel
theorem d14_51_185 : decode prog_14_method_51_code 185 = .ok (.iconst 4, 1) := by decide +kernel
theorem d14_51_186 : decode prog_14_method_51_code 186 = .ok (.if_icmp .ne 8, 3) := by decide +kernel
theorem d14_51_189 : decode prog_14_method_51_code 189 = .ok (.iload 4, 2) := by decide +kernel
theorem d14_51_191 : decode prog_14_method_51_code 191 = .ok (.goto 10, 3) := by decide +kernel
theorem d14_51_194 : decode prog_14_method_51_code 194 = .ok (.aload_n 0, 1) := by decide +kernel
theorem d14_51_195 : decode prog_14_method_51_code 195 = .ok (.getfield 41, 3) := by decide +kernel
theorem d14_51_198 : decode prog_14_method_51_code 198 = .ok (.iload 4, 2) := by decide +kernel
theorem d14_51_200 : decode prog_14_method_51_code 200 = .ok (.iaload, 1) := by decide +kernel
theorem d14_51_201 : decode prog_14_method_51_code 201 = .ok (.istore 4, 2) := by decide +kernel
theorem d14_51_203 : decode prog_14_method_51_code 203 = .ok (.iinc 6 1, 3) := by decide +kernel
theorem d14_51_206 : decode prog_14_method_51_code 206 = .ok (.goto (-159), 3) := by decide +kernel
theorem d14_51_209 : decode prog_14_method_51_code 209 = .ok (.aload_n 0, 1) := by decide +kernel
theorem d14_51_210 : decode prog_14_method_51_code 210 = .ok (.iload_n 2, 1) := by decide +kernel
theorem d14_51_211 : decode prog_14_method_51_code 211 = .ok (.bipush 30, 2) := by decide +kernel
theorem d14_51_213 : decode prog_14_method_51_code 213 = .ok (.invokevirtual 246, 3) := by decide +kernel
theorem d14_51_216 : decode prog_14_method_51_code 216 = .ok (.istore 6, 2) := by decide +kernel
theorem d14_51_218 : decode prog_14_method_51_code 218 = .ok (.iload_n 3, 1) := by decide +kernel
theorem d14_51_219 : decode prog_14_method_51_code 219 = .ok (.ifCond .eq 12, 3) := by decide +kernel
theorem d14_51_222 : decode prog_14_method_51_code 222 = .ok (.iload 6, 2) := by decide +kernel
theorem d14_51_224 : decode prog_14_method_51_code 224 = .ok (.ifCond .eq 7, 3) := by decide +kernel
theorem d14_51_227 : decode prog_14_method_51_code 227 = .ok (.iconst 1, 1) := by decide +kernel
theorem d14_51_228 : decode prog_14_method_51_code 228 = .ok (.goto 4, 3) := by decide +kernel
theorem d14_51_231 : decode prog_14_method_51_code 231 = .ok (.iconst 0, 1) := by decide +kernel
theorem d14_51_232 : decode prog_14_method_51_code 232 = .ok (.ireturn, 1) := by decide +kernel
